/-! ===== definitions of jets: windows, bits of a byte ===== -/
theorem mh_seg {z : List Bool} {a : Nat} : (z.take (a + a)).drop a ++ (z.drop (2 * a)).take a = (z.drop a).take (2 * a) := by
  rw [List.drop_take, Nat.add_sub_cancel, Nat.two_mul, li_ta]
theorem sg_sg {z : List Bool} {a n b k : Nat} (h : b + k ≤ n) : (((z.drop a).take n).drop b).take k = (z.drop (a + b)).take k := by
  rw [li_td h, List.drop_drop]
def wqL (j : Nat) : Nat → gQ
  | 0 => qP qL (qD qL)
  | e + 1 => qP (wqL j e) (qC (2 * 2 ^ (j + 1 + e)) (qP qL (qD qL)) (wqL j e))
def wqR (j : Nat) : Nat → gQ
  | 0 => qP qL (qD qL)
  | e + 1 => qP (qC (2 * 2 ^ (j + 1 + e)) (qP qL (qD qL)) (wqR j e)) (qD (wqR j e))
section CD
variable {sc : xm_Sc} {d : Nat} {J : List Nat} {post : xm_Po}
theorem wi_loopL {lv w j : Nat} (hlv : lv < 7) (hw : 2 ^ lv = w) : ∀ (n e c m p : Nat) (h : xm_H) (G : Nat → gN), j + 1 + e + n = lv → XF h → cI h G c m J → m + 9 * n ≤ 8000 → nG G c p (2 * 2 ^ (j + 1 + e)) (2 ^ (j + 1 + e)) (fun z => (z.drop (2 ^ j)).take (2 ^ (j + 1 + e))) (wqL j e) → cPo h G c (m + 9 * n) J (2 * w) w (fun z => (z.drop (2 ^ j)).take w) (wqL j (e + n)) post →
    xm_go (XE sc) (xm_T (XE sc) (d + 4)) 37 post 14 [(5, .int (nI (j + 1 + e))), (4, .int (nI p)), (0, .ref 22), (1, .int (nI lv)), (2, .int (nI j)), (3, .int (nI 0))] [] h := by
  intro n
  induction n with
  | zero =>
    intro e c m p h G hi hF hI hm v hp
    have : j + 1 + e = lv := by omega
    rw [this, hw] at v
    with_reducible refine xm_go_blk b_X0_window_14 k_X0_window_14 ?_
    refine by_iload rfl ?_
    refine by_iload_n rfl ?_
    refine by_ic_ge 87 rfl ?_
    simp (disch := first | exact Nat.ne_of_beq_eq_false rfl | exact rfl | omega) only [nI_add, xa_sub, xa_mul, pk_div, nm_mod, xa_shr, xa_and7, xa_and1, xa_and255, xa_by_and, nI_m1, Nat.add_sub_cancel, Nat.reducePow, Nat.zero_add, Nat.add_zero, Nat.reduceAdd, Nat.reduceMul, Nat.reduceSub, xf_same, xq_ff, xq_fo, xf_1, xf_2, xs_1, xs_2, xs_same, xq_so, xj_1, xj_2, xj_same, xq_jo, xq_sa1, xq_same, xq_other, upd_s, oI_n, oI_s, xv_0, xv_1, xv_2, xv_3, xm_p1, xm_p2, xq_fp, xq_fn, List.filter_nil, Nat.reduceBEq, Bool.not_true, Bool.not_false, Bool.and_true, Bool.and_false, Bool.false_and, Bool.true_and, if_true, if_false, Bool.false_eq_true, reduceIte, xc_i, xc_j, xc_r, xc_n, List.nil_append, List.cons_append, Option.toList_some, Option.toList_none, nI_ltJ, nI_leJ, nI_eqJ, nI_ltz, nI_gez, nI_gtz, nI_lez, nI_eqz, m1_ltz, m1_gez, true_imp_iff, false_imp_iff, true_and, and_true, ne_eq, not_false_eq_true, not_true_eq_false, Nat.reduceEqDiff, Nat.reduceLT, Nat.reduceLeDiff]
    refine ⟨fun c14 => ?_, fun c => absurd (by omega) c⟩
    with_reducible refine xm_go_blk b_X0_window_87 k_X0_window_87 ?_
    refine by_iload rfl ?_
    refine by_iret ry_37 (by first | rfl | assumption) ?_
    exact hp h G c p hF hI cE_rf v
  | succ n ih =>
    intro e c m p h G hi hF hI hm v hp
    have hsh := pw_sh (j + 1 + e) (by omega)
    have hu64 := pw_l7 (l := j + 1 + e) (by omega)
    have hju : 2 ^ j + 2 ^ j ≤ 2 ^ (j + 1 + e) := by
      rw [← Nat.mul_two, ← Nat.pow_succ]
      exact Nat.pow_le_pow_right (by decide) (by omega)
    have hu2 : 2 ^ (j + 1 + (e + 1)) = 2 * 2 ^ (j + 1 + e) := by rw [← Nat.add_assoc, Nat.pow_succ, Nat.mul_comm]
    have hq : wqL j (e + 1) = wqL j (e + 1) := rfl
    conv at hq => rhs; unfold wqL
    obtain ⟨u, hu⟩ : ∃ u, 2 ^ (j + 1 + e) = u := ⟨_, rfl⟩
    rw [hu] at hsh v hu64 hu2 hju hq
    have E : cE h G c h G c := cE_rf
    with_reducible refine xm_go_blk b_X0_window_14 k_X0_window_14 ?_
    refine by_iload rfl ?_
    refine by_iload_n rfl ?_
    refine by_ic_ge 87 rfl ?_
    simp (disch := first | exact Nat.ne_of_beq_eq_false rfl | exact rfl | omega) only [nI_add, xa_sub, xa_mul, pk_div, nm_mod, xa_shr, xa_and7, xa_and1, xa_and255, xa_by_and, nI_m1, Nat.add_sub_cancel, Nat.reducePow, Nat.zero_add, Nat.add_zero, Nat.reduceAdd, Nat.reduceMul, Nat.reduceSub, xf_same, xq_ff, xq_fo, xf_1, xf_2, xs_1, xs_2, xs_same, xq_so, xj_1, xj_2, xj_same, xq_jo, xq_sa1, xq_same, xq_other, upd_s, oI_n, oI_s, xv_0, xv_1, xv_2, xv_3, xm_p1, xm_p2, xq_fp, xq_fn, List.filter_nil, Nat.reduceBEq, Bool.not_true, Bool.not_false, Bool.and_true, Bool.and_false, Bool.false_and, Bool.true_and, if_true, if_false, Bool.false_eq_true, reduceIte, xc_i, xc_j, xc_r, xc_n, List.nil_append, List.cons_append, Option.toList_some, Option.toList_none, nI_ltJ, nI_leJ, nI_eqJ, nI_ltz, nI_gez, nI_gtz, nI_lez, nI_eqz, m1_ltz, m1_gez, true_imp_iff, false_imp_iff, true_and, and_true, ne_eq, not_false_eq_true, not_true_eq_false, Nat.reduceEqDiff, Nat.reduceLT, Nat.reduceLeDiff, hsh]
    refine ⟨fun c => absurd c (by omega), fun c14 => ?_⟩
    with_reducible refine xm_go_blk b_X0_window_20 k_X0_window_20 ?_
    refine by_iconst ci_1 ?_
    refine by_iload rfl ?_
    refine by_ishl ?_
    refine by_istore (by rw [ml_37]; decide) ?_
    refine by_aload_n rfl ?_
    refine by_aload_n rfl ?_
    refine by_iload rfl ?_
    simp (disch := first | exact Nat.ne_of_beq_eq_false rfl | exact rfl | omega) only [nI_add, xa_sub, xa_mul, pk_div, nm_mod, xa_shr, xa_and7, xa_and1, xa_and255, xa_by_and, nI_m1, Nat.add_sub_cancel, Nat.reducePow, Nat.zero_add, Nat.add_zero, Nat.reduceAdd, Nat.reduceMul, Nat.reduceSub, xf_same, xq_ff, xq_fo, xf_1, xf_2, xs_1, xs_2, xs_same, xq_so, xj_1, xj_2, xj_same, xq_jo, xq_sa1, xq_same, xq_other, upd_s, oI_n, oI_s, xv_0, xv_1, xv_2, xv_3, xm_p1, xm_p2, xq_fp, xq_fn, List.filter_nil, Nat.reduceBEq, Bool.not_true, Bool.not_false, Bool.and_true, Bool.and_false, Bool.false_and, Bool.true_and, if_true, if_false, Bool.false_eq_true, reduceIte, xc_i, xc_j, xc_r, xc_n, List.nil_append, List.cons_append, Option.toList_some, Option.toList_none, hsh]
    refine by_inv1 cn_37 lk_0_133 (by rw [xe_cnt]; decide) is_23 np_23 cn_23 (by first | exact rfl | assumption) (Nat.le_of_ble_eq_true rfl) ?_
    refine sp_middleHalves hF hI (by omega) (by omega) (fun h1 G1 c1 n1 F1 I1 e1 v1 => ?_)
    replace v := nG_up v e1
    replace E := cE_tr E e1
    with_reducible refine xm_go_blk b_X0_window_33 k_X0_window_33 ?_
    refine by_iload rfl ?_
    refine by_inv2 cn_37 lk_0_86 (by rw [xe_cnt]; decide) is_7 np_7 cn_7 (by first | exact rfl | assumption) (Nat.le_of_ble_eq_true rfl) ?_
    refine sp_gcomp F1 I1 (by omega) v1 v (by omega) (fun h2 G2 c2 n2 F2 I2 e2 v2 => ?_)
    replace v := nG_up v e2
    replace E := cE_tr E e2
    with_reducible refine xm_go_blk b_X0_window_38 k_X0_window_38 ?_
    refine by_istore (by rw [ml_37]; decide) ?_
    refine by_iload_n rfl ?_
    refine by_if_eq 63 rfl ?_
    simp (disch := first | exact Nat.ne_of_beq_eq_false rfl | exact rfl | omega) only [nI_add, xa_sub, xa_mul, pk_div, nm_mod, xa_shr, xa_and7, xa_and1, xa_and255, xa_by_and, nI_m1, Nat.add_sub_cancel, Nat.reducePow, Nat.zero_add, Nat.add_zero, Nat.reduceAdd, Nat.reduceMul, Nat.reduceSub, xf_same, xq_ff, xq_fo, xf_1, xf_2, xs_1, xs_2, xs_same, xq_so, xj_1, xj_2, xj_same, xq_jo, xq_sa1, xq_same, xq_other, upd_s, oI_n, oI_s, xv_0, xv_1, xv_2, xv_3, xm_p1, xm_p2, xq_fp, xq_fn, List.filter_nil, Nat.reduceBEq, Bool.not_true, Bool.not_false, Bool.and_true, Bool.and_false, Bool.false_and, Bool.true_and, if_true, if_false, Bool.false_eq_true, reduceIte, xc_i, xc_j, xc_r, xc_n, List.nil_append, List.cons_append, Option.toList_some, Option.toList_none, nI_ltJ, nI_leJ, nI_eqJ, nI_ltz, nI_gez, nI_gtz, nI_lez, nI_eqz, m1_ltz, m1_gez, true_imp_iff, false_imp_iff, true_and, and_true, ne_eq, not_false_eq_true, not_true_eq_false, Nat.reduceEqDiff, Nat.reduceLT, Nat.reduceLeDiff, hsh]
    with_reducible refine xm_go_blk b_X0_window_63 k_X0_window_63 ?_
    refine by_aload_n rfl ?_
    refine by_aload_n rfl ?_
    refine by_iload rfl ?_
    refine by_iconst ci_2 ?_
    refine by_iload rfl ?_
    refine by_imul ?_
    simp (disch := first | exact Nat.ne_of_beq_eq_false rfl | exact rfl | omega) only [nI_add, xa_sub, xa_mul, pk_div, nm_mod, xa_shr, xa_and7, xa_and1, xa_and255, xa_by_and, nI_m1, Nat.add_sub_cancel, Nat.reducePow, Nat.zero_add, Nat.add_zero, Nat.reduceAdd, Nat.reduceMul, Nat.reduceSub, xf_same, xq_ff, xq_fo, xf_1, xf_2, xs_1, xs_2, xs_same, xq_so, xj_1, xj_2, xj_same, xq_jo, xq_sa1, xq_same, xq_other, upd_s, oI_n, oI_s, xv_0, xv_1, xv_2, xv_3, xm_p1, xm_p2, xq_fp, xq_fn, List.filter_nil, Nat.reduceBEq, Bool.not_true, Bool.not_false, Bool.and_true, Bool.and_false, Bool.false_and, Bool.true_and, if_true, if_false, Bool.false_eq_true, reduceIte, xc_i, xc_j, xc_r, xc_n, List.nil_append, List.cons_append, Option.toList_some, Option.toList_none, hsh]
    refine by_inv2 cn_37 lk_0_101 (by rw [xe_cnt]; decide) is_33 np_33 cn_33 (by first | exact rfl | assumption) (Nat.le_of_ble_eq_true rfl) ?_
    refine sp_gtake F2 I2 (by omega) v (by omega) (fun h3 G3 c3 n3 F3 I3 e3 v3 => ?_)
    replace v2 := nG_up v2 e3
    replace E := cE_tr E e3
    with_reducible refine xm_go_blk b_X0_window_74 k_X0_window_74 ?_
    refine by_iload rfl ?_
    refine by_inv2 cn_37 lk_0_80 (by rw [xe_cnt]; decide) is_25 np_25 cn_25 (by first | exact rfl | assumption) (Nat.le_of_ble_eq_true rfl) ?_
    refine sp_gpair F3 I3 (by omega) v3 v2 (by omega) (by omega) (fun h4 G4 c4 n4 F4 I4 e4 v4 => ?_)
    replace E := cE_tr E e4
    with_reducible refine xm_go_blk b_X0_window_79 k_X0_window_79 ?_
    refine by_istore (by rw [ml_37]; decide) ?_
    refine by_iinc (by rw [ml_37]; decide) rfl ci_1 ?_
    refine by_goto 14 rfl ?_
    try simp (disch := first | exact Nat.ne_of_beq_eq_false rfl | exact rfl | omega) only [nI_add, xa_sub, xa_mul, pk_div, nm_mod, xa_shr, xa_and7, xa_and1, xa_and255, xa_by_and, nI_m1, Nat.add_sub_cancel, Nat.reducePow, Nat.zero_add, Nat.add_zero, Nat.reduceAdd, Nat.reduceMul, Nat.reduceSub, xf_same, xq_ff, xq_fo, xf_1, xf_2, xs_1, xs_2, xs_same, xq_so, xj_1, xj_2, xj_same, xq_jo, xq_sa1, xq_same, xq_other, upd_s, oI_n, oI_s, xv_0, xv_1, xv_2, xv_3, xm_p1, xm_p2, xq_fp, xq_fn, List.filter_nil, Nat.reduceBEq, Bool.not_true, Bool.not_false, Bool.and_true, Bool.and_false, Bool.false_and, Bool.true_and, if_true, if_false, Bool.false_eq_true, reduceIte, xc_i, xc_j, xc_r, xc_n, List.nil_append, List.cons_append, Option.toList_some, Option.toList_none, hsh]
    refine xm_go_wk (by simp [Value.category, Nat.add_assoc]) (ih (e + 1) _ (m + 9) _ h4 G4 (by omega) F4 (cI_mono I4 (by omega) (by omega)) (by omega) (nG_cg v4 (by omega) (by omega) (fun x hx => ?_) (by rw [hq]; exact qle_rf _)) ?_)
    · rw [hu2]
      have hx' : x.length = 4 * u := by omega
      show ((x.take (2 * u)).drop (2 ^ j)).take u ++ (((x.take (u + u)).drop u ++ (x.drop (2 * u)).take u).drop (2 ^ j)).take u = (x.drop (2 ^ j)).take (2 * u)
      rw [mh_seg, sg_sg (by omega), li_td (by omega), show u + 2 ^ j = 2 ^ j + u by omega, li_ta, Nat.two_mul]
    · intro h' G' c' n' k1 k2 k3 k4
      rw [show e + 1 + n = e + (n + 1) by omega] at k4
      exact hp h' G' c' n' k1 (cI_mono k2 (by omega) (by omega)) (cE_tr E k3) k4
theorem sp_windowL {lv w j c m : Nat} {h : xm_H} {G : Nat → gN} (hlv : lv < 7) (hj : j < lv) (hw : 2 ^ lv = w) (hF : XF h) (hI : cI h G c m J) (hm : m + (5 + 9 * (lv - j - 1)) ≤ 8000) (hp : cPo h G c (m + (5 + 9 * (lv - j - 1))) J (2 * w) w (fun z => (z.drop (2 ^ j)).take w) (wqL j (lv - j - 1)) post) : xm_T (XE sc) (d + 5) 37 [.ref 22, .int (nI lv), .int (nI j), .int (nI 0)] h post := by
  have hsh := pw_sh j (by omega)
  have hj64 := pw_l7 (l := j) (by omega)
  refine xq_in rfl ?_
  simp only [xq_a0, xq_aI, xq_aJ, xq_aR, Nat.reduceAdd]
  with_reducible refine xm_go_blk b_X0_window_0 k_X0_window_0 ?_
  refine by_aload_n rfl ?_
  refine by_iconst ci_1 ?_
  refine by_iload_n rfl ?_
  refine by_ishl ?_
  simp (disch := first | exact Nat.ne_of_beq_eq_false rfl | exact rfl | omega) only [nI_add, xa_sub, xa_mul, pk_div, nm_mod, xa_shr, xa_and7, xa_and1, xa_and255, xa_by_and, nI_m1, Nat.add_sub_cancel, Nat.reducePow, Nat.zero_add, Nat.add_zero, Nat.reduceAdd, Nat.reduceMul, Nat.reduceSub, xf_same, xq_ff, xq_fo, xf_1, xf_2, xs_1, xs_2, xs_same, xq_so, xj_1, xj_2, xj_same, xq_jo, xq_sa1, xq_same, xq_other, upd_s, oI_n, oI_s, xv_0, xv_1, xv_2, xv_3, xm_p1, xm_p2, xq_fp, xq_fn, List.filter_nil, Nat.reduceBEq, Bool.not_true, Bool.not_false, Bool.and_true, Bool.and_false, Bool.false_and, Bool.true_and, if_true, if_false, Bool.false_eq_true, reduceIte, xc_i, xc_j, xc_r, xc_n, List.nil_append, List.cons_append, Option.toList_some, Option.toList_none, hsh]
  refine by_inv1 cn_37 lk_0_133 (by rw [xe_cnt]; decide) is_23 np_23 cn_23 (by first | exact rfl | assumption) (Nat.le_of_ble_eq_true rfl) ?_
  refine sp_middleHalves hF hI (by omega) (by omega) (fun h1 G1 c1 n1 F1 I1 e1 v1 => ?_)
  have e2 : 2 ^ (j + 1 + 0) = 2 * 2 ^ j := by rw [Nat.add_zero, Nat.pow_succ, Nat.mul_comm]
  with_reducible refine xm_go_blk b_X0_window_7 k_X0_window_7 ?_
  refine by_istore (by rw [ml_37]; decide) ?_
  refine by_iload_n rfl ?_
  refine by_iconst ci_1 ?_
  refine by_iadd ?_
  refine by_istore (by rw [ml_37]; decide) ?_
  refine by_nil ?_
  try simp (disch := first | exact Nat.ne_of_beq_eq_false rfl | exact rfl | omega) only [nI_add, xa_sub, xa_mul, pk_div, nm_mod, xa_shr, xa_and7, xa_and1, xa_and255, xa_by_and, nI_m1, Nat.add_sub_cancel, Nat.reducePow, Nat.zero_add, Nat.add_zero, Nat.reduceAdd, Nat.reduceMul, Nat.reduceSub, xf_same, xq_ff, xq_fo, xf_1, xf_2, xs_1, xs_2, xs_same, xq_so, xj_1, xj_2, xj_same, xq_jo, xq_sa1, xq_same, xq_other, upd_s, oI_n, oI_s, xv_0, xv_1, xv_2, xv_3, xm_p1, xm_p2, xq_fp, xq_fn, List.filter_nil, Nat.reduceBEq, Bool.not_true, Bool.not_false, Bool.and_true, Bool.and_false, Bool.false_and, Bool.true_and, if_true, if_false, Bool.false_eq_true, reduceIte, xc_i, xc_j, xc_r, xc_n, List.nil_append, List.cons_append, Option.toList_some, Option.toList_none]
  refine xm_go_wk (by simp [Value.category]) (wi_loopL (j := j) hlv hw (lv - j - 1) 0 c1 (m + 5) n1 h1 G1 (by omega) F1 I1 (by omega) (nG_cg v1 (by omega) (by omega) (fun x hx => ?_) (qle_rf _)) ?_)
  · rw [e2]
    show (x.take (2 ^ j + 2 ^ j)).drop (2 ^ j) ++ (x.drop (2 * 2 ^ j)).take (2 ^ j) = _
    rw [mh_seg]
  · intro h' G' c' n' k1 k2 k3 k4
    rw [Nat.zero_add] at k4
    exact hp h' G' c' n' k1 (cI_mono k2 (by omega) hm) (cE_tr e1 k3) k4
theorem wi_loopR {lv w j : Nat} (hlv : lv < 7) (hw : 2 ^ lv = w) : ∀ (n e c m p : Nat) (h : xm_H) (G : Nat → gN), j + 1 + e + n = lv → XF h → cI h G c m J → m + 9 * n ≤ 8000 → nG G c p (2 * 2 ^ (j + 1 + e)) (2 ^ (j + 1 + e)) (fun z => (z.drop (2 ^ (j + 1 + e) - 2 ^ j)).take (2 ^ (j + 1 + e))) (wqR j e) → cPo h G c (m + 9 * n) J (2 * w) w (fun z => (z.drop (w - 2 ^ j)).take w) (wqR j (e + n)) post →
    xm_go (XE sc) (xm_T (XE sc) (d + 4)) 37 post 14 [(5, .int (nI (j + 1 + e))), (4, .int (nI p)), (0, .ref 22), (1, .int (nI lv)), (2, .int (nI j)), (3, .int (nI 1))] [] h := by
  intro n
  induction n with
  | zero =>
    intro e c m p h G hi hF hI hm v hp
    have : j + 1 + e = lv := by omega
    rw [this, hw] at v
    with_reducible refine xm_go_blk b_X0_window_14 k_X0_window_14 ?_
    refine by_iload rfl ?_
    refine by_iload_n rfl ?_
    refine by_ic_ge 87 rfl ?_
    simp (disch := first | exact Nat.ne_of_beq_eq_false rfl | exact rfl | omega) only [nI_add, xa_sub, xa_mul, pk_div, nm_mod, xa_shr, xa_and7, xa_and1, xa_and255, xa_by_and, nI_m1, Nat.add_sub_cancel, Nat.reducePow, Nat.zero_add, Nat.add_zero, Nat.reduceAdd, Nat.reduceMul, Nat.reduceSub, xf_same, xq_ff, xq_fo, xf_1, xf_2, xs_1, xs_2, xs_same, xq_so, xj_1, xj_2, xj_same, xq_jo, xq_sa1, xq_same, xq_other, upd_s, oI_n, oI_s, xv_0, xv_1, xv_2, xv_3, xm_p1, xm_p2, xq_fp, xq_fn, List.filter_nil, Nat.reduceBEq, Bool.not_true, Bool.not_false, Bool.and_true, Bool.and_false, Bool.false_and, Bool.true_and, if_true, if_false, Bool.false_eq_true, reduceIte, xc_i, xc_j, xc_r, xc_n, List.nil_append, List.cons_append, Option.toList_some, Option.toList_none, nI_ltJ, nI_leJ, nI_eqJ, nI_ltz, nI_gez, nI_gtz, nI_lez, nI_eqz, m1_ltz, m1_gez, true_imp_iff, false_imp_iff, true_and, and_true, ne_eq, not_false_eq_true, not_true_eq_false, Nat.reduceEqDiff, Nat.reduceLT, Nat.reduceLeDiff]
    refine ⟨fun c14 => ?_, fun c => absurd (by omega) c⟩
    with_reducible refine xm_go_blk b_X0_window_87 k_X0_window_87 ?_
    refine by_iload rfl ?_
    refine by_iret ry_37 (by first | rfl | assumption) ?_
    exact hp h G c p hF hI cE_rf v
  | succ n ih =>
    intro e c m p h G hi hF hI hm v hp
    have hsh := pw_sh (j + 1 + e) (by omega)
    have hu64 := pw_l7 (l := j + 1 + e) (by omega)
    have hju : 2 ^ j + 2 ^ j ≤ 2 ^ (j + 1 + e) := by
      rw [← Nat.mul_two, ← Nat.pow_succ]
      exact Nat.pow_le_pow_right (by decide) (by omega)
    have hu2 : 2 ^ (j + 1 + (e + 1)) = 2 * 2 ^ (j + 1 + e) := by rw [← Nat.add_assoc, Nat.pow_succ, Nat.mul_comm]
    have hq : wqR j (e + 1) = wqR j (e + 1) := rfl
    conv at hq => rhs; unfold wqR
    obtain ⟨u, hu⟩ : ∃ u, 2 ^ (j + 1 + e) = u := ⟨_, rfl⟩
    rw [hu] at hsh v hu64 hu2 hju hq
    have E : cE h G c h G c := cE_rf
    with_reducible refine xm_go_blk b_X0_window_14 k_X0_window_14 ?_
    refine by_iload rfl ?_
    refine by_iload_n rfl ?_
    refine by_ic_ge 87 rfl ?_
    simp (disch := first | exact Nat.ne_of_beq_eq_false rfl | exact rfl | omega) only [nI_add, xa_sub, xa_mul, pk_div, nm_mod, xa_shr, xa_and7, xa_and1, xa_and255, xa_by_and, nI_m1, Nat.add_sub_cancel, Nat.reducePow, Nat.zero_add, Nat.add_zero, Nat.reduceAdd, Nat.reduceMul, Nat.reduceSub, xf_same, xq_ff, xq_fo, xf_1, xf_2, xs_1, xs_2, xs_same, xq_so, xj_1, xj_2, xj_same, xq_jo, xq_sa1, xq_same, xq_other, upd_s, oI_n, oI_s, xv_0, xv_1, xv_2, xv_3, xm_p1, xm_p2, xq_fp, xq_fn, List.filter_nil, Nat.reduceBEq, Bool.not_true, Bool.not_false, Bool.and_true, Bool.and_false, Bool.false_and, Bool.true_and, if_true, if_false, Bool.false_eq_true, reduceIte, xc_i, xc_j, xc_r, xc_n, List.nil_append, List.cons_append, Option.toList_some, Option.toList_none, nI_ltJ, nI_leJ, nI_eqJ, nI_ltz, nI_gez, nI_gtz, nI_lez, nI_eqz, m1_ltz, m1_gez, true_imp_iff, false_imp_iff, true_and, and_true, ne_eq, not_false_eq_true, not_true_eq_false, Nat.reduceEqDiff, Nat.reduceLT, Nat.reduceLeDiff, hsh]
    refine ⟨fun c => absurd c (by omega), fun c14 => ?_⟩
    with_reducible refine xm_go_blk b_X0_window_20 k_X0_window_20 ?_
    refine by_iconst ci_1 ?_
    refine by_iload rfl ?_
    refine by_ishl ?_
    refine by_istore (by rw [ml_37]; decide) ?_
    refine by_aload_n rfl ?_
    refine by_aload_n rfl ?_
    refine by_iload rfl ?_
    simp (disch := first | exact Nat.ne_of_beq_eq_false rfl | exact rfl | omega) only [nI_add, xa_sub, xa_mul, pk_div, nm_mod, xa_shr, xa_and7, xa_and1, xa_and255, xa_by_and, nI_m1, Nat.add_sub_cancel, Nat.reducePow, Nat.zero_add, Nat.add_zero, Nat.reduceAdd, Nat.reduceMul, Nat.reduceSub, xf_same, xq_ff, xq_fo, xf_1, xf_2, xs_1, xs_2, xs_same, xq_so, xj_1, xj_2, xj_same, xq_jo, xq_sa1, xq_same, xq_other, upd_s, oI_n, oI_s, xv_0, xv_1, xv_2, xv_3, xm_p1, xm_p2, xq_fp, xq_fn, List.filter_nil, Nat.reduceBEq, Bool.not_true, Bool.not_false, Bool.and_true, Bool.and_false, Bool.false_and, Bool.true_and, if_true, if_false, Bool.false_eq_true, reduceIte, xc_i, xc_j, xc_r, xc_n, List.nil_append, List.cons_append, Option.toList_some, Option.toList_none, hsh]
    refine by_inv1 cn_37 lk_0_133 (by rw [xe_cnt]; decide) is_23 np_23 cn_23 (by first | exact rfl | assumption) (Nat.le_of_ble_eq_true rfl) ?_
    refine sp_middleHalves hF hI (by omega) (by omega) (fun h1 G1 c1 n1 F1 I1 e1 v1 => ?_)
    replace v := nG_up v e1
    replace E := cE_tr E e1
    with_reducible refine xm_go_blk b_X0_window_33 k_X0_window_33 ?_
    refine by_iload rfl ?_
    refine by_inv2 cn_37 lk_0_86 (by rw [xe_cnt]; decide) is_7 np_7 cn_7 (by first | exact rfl | assumption) (Nat.le_of_ble_eq_true rfl) ?_
    refine sp_gcomp F1 I1 (by omega) v1 v (by omega) (fun h2 G2 c2 n2 F2 I2 e2 v2 => ?_)
    replace v := nG_up v e2
    replace E := cE_tr E e2
    with_reducible refine xm_go_blk b_X0_window_38 k_X0_window_38 ?_
    refine by_istore (by rw [ml_37]; decide) ?_
    refine by_iload_n rfl ?_
    refine by_if_eq 63 rfl ?_
    simp (disch := first | exact Nat.ne_of_beq_eq_false rfl | exact rfl | omega) only [nI_add, xa_sub, xa_mul, pk_div, nm_mod, xa_shr, xa_and7, xa_and1, xa_and255, xa_by_and, nI_m1, Nat.add_sub_cancel, Nat.reducePow, Nat.zero_add, Nat.add_zero, Nat.reduceAdd, Nat.reduceMul, Nat.reduceSub, xf_same, xq_ff, xq_fo, xf_1, xf_2, xs_1, xs_2, xs_same, xq_so, xj_1, xj_2, xj_same, xq_jo, xq_sa1, xq_same, xq_other, upd_s, oI_n, oI_s, xv_0, xv_1, xv_2, xv_3, xm_p1, xm_p2, xq_fp, xq_fn, List.filter_nil, Nat.reduceBEq, Bool.not_true, Bool.not_false, Bool.and_true, Bool.and_false, Bool.false_and, Bool.true_and, if_true, if_false, Bool.false_eq_true, reduceIte, xc_i, xc_j, xc_r, xc_n, List.nil_append, List.cons_append, Option.toList_some, Option.toList_none, nI_ltJ, nI_leJ, nI_eqJ, nI_ltz, nI_gez, nI_gtz, nI_lez, nI_eqz, m1_ltz, m1_gez, true_imp_iff, false_imp_iff, true_and, and_true, ne_eq, not_false_eq_true, not_true_eq_false, Nat.reduceEqDiff, Nat.reduceLT, Nat.reduceLeDiff, hsh]
    with_reducible refine xm_go_blk b_X0_window_44 k_X0_window_44 ?_
    refine by_aload_n rfl ?_
    refine by_iload rfl ?_
    refine by_aload_n rfl ?_
    refine by_iconst ci_2 ?_
    refine by_iload rfl ?_
    refine by_imul ?_
    refine by_iload rfl ?_
    simp (disch := first | exact Nat.ne_of_beq_eq_false rfl | exact rfl | omega) only [nI_add, xa_sub, xa_mul, pk_div, nm_mod, xa_shr, xa_and7, xa_and1, xa_and255, xa_by_and, nI_m1, Nat.add_sub_cancel, Nat.reducePow, Nat.zero_add, Nat.add_zero, Nat.reduceAdd, Nat.reduceMul, Nat.reduceSub, xf_same, xq_ff, xq_fo, xf_1, xf_2, xs_1, xs_2, xs_same, xq_so, xj_1, xj_2, xj_same, xq_jo, xq_sa1, xq_same, xq_other, upd_s, oI_n, oI_s, xv_0, xv_1, xv_2, xv_3, xm_p1, xm_p2, xq_fp, xq_fn, List.filter_nil, Nat.reduceBEq, Bool.not_true, Bool.not_false, Bool.and_true, Bool.and_false, Bool.false_and, Bool.true_and, if_true, if_false, Bool.false_eq_true, reduceIte, xc_i, xc_j, xc_r, xc_n, List.nil_append, List.cons_append, Option.toList_some, Option.toList_none, hsh]
    refine by_inv2 cn_37 lk_0_47 (by rw [xe_cnt]; decide) is_12 np_12 cn_12 (by first | exact rfl | assumption) (Nat.le_of_ble_eq_true rfl) ?_
    refine sp_gdrop F2 I2 (by omega) v (by omega) (fun h3 G3 c3 n3 F3 I3 e3 v3 => ?_)
    replace v2 := nG_up v2 e3
    replace E := cE_tr E e3
    with_reducible refine xm_go_blk b_X0_window_57 k_X0_window_57 ?_
    refine by_inv2 cn_37 lk_0_80 (by rw [xe_cnt]; decide) is_25 np_25 cn_25 (by first | exact rfl | assumption) (Nat.le_of_ble_eq_true rfl) ?_
    refine sp_gpair F3 I3 (by omega) v2 v3 (by omega) (by omega) (fun h4 G4 c4 n4 F4 I4 e4 v4 => ?_)
    replace E := cE_tr E e4
    with_reducible refine xm_go_blk b_X0_window_60 k_X0_window_60 ?_
    refine by_goto 79 rfl ?_
    with_reducible refine xm_go_blk b_X0_window_79 k_X0_window_79 ?_
    refine by_istore (by rw [ml_37]; decide) ?_
    refine by_iinc (by rw [ml_37]; decide) rfl ci_1 ?_
    refine by_goto 14 rfl ?_
    try simp (disch := first | exact Nat.ne_of_beq_eq_false rfl | exact rfl | omega) only [nI_add, xa_sub, xa_mul, pk_div, nm_mod, xa_shr, xa_and7, xa_and1, xa_and255, xa_by_and, nI_m1, Nat.add_sub_cancel, Nat.reducePow, Nat.zero_add, Nat.add_zero, Nat.reduceAdd, Nat.reduceMul, Nat.reduceSub, xf_same, xq_ff, xq_fo, xf_1, xf_2, xs_1, xs_2, xs_same, xq_so, xj_1, xj_2, xj_same, xq_jo, xq_sa1, xq_same, xq_other, upd_s, oI_n, oI_s, xv_0, xv_1, xv_2, xv_3, xm_p1, xm_p2, xq_fp, xq_fn, List.filter_nil, Nat.reduceBEq, Bool.not_true, Bool.not_false, Bool.and_true, Bool.and_false, Bool.false_and, Bool.true_and, if_true, if_false, Bool.false_eq_true, reduceIte, xc_i, xc_j, xc_r, xc_n, List.nil_append, List.cons_append, Option.toList_some, Option.toList_none, hsh]
    refine xm_go_wk (by simp [Value.category, Nat.add_assoc]) (ih (e + 1) _ (m + 9) _ h4 G4 (by omega) F4 (cI_mono I4 (by omega) (by omega)) (by omega) (nG_cg v4 (by omega) (by omega) (fun x hx => ?_) (by rw [hq]; exact qle_rf _)) ?_)
    · rw [hu2]
      have hx' : x.length = 4 * u := by omega
      show (((x.take (u + u)).drop u ++ (x.drop (2 * u)).take u).drop (u - 2 ^ j)).take u ++ ((x.drop (2 * u)).drop (u - 2 ^ j)).take u = (x.drop (2 * u - 2 ^ j)).take (2 * u)
      clear hq
      generalize 2 ^ j = a at *
      rw [mh_seg, sg_sg (by omega), List.drop_drop, show u + (u - a) = 2 * u - a by omega, show 2 * u + (u - a) = 2 * u - a + u by omega, li_ta, Nat.two_mul]
    · intro h' G' c' n' k1 k2 k3 k4
      rw [show e + 1 + n = e + (n + 1) by omega] at k4
      exact hp h' G' c' n' k1 (cI_mono k2 (by omega) (by omega)) (cE_tr E k3) k4
theorem sp_windowR {lv w j c m : Nat} {h : xm_H} {G : Nat → gN} (hlv : lv < 7) (hj : j < lv) (hw : 2 ^ lv = w) (hF : XF h) (hI : cI h G c m J) (hm : m + (5 + 9 * (lv - j - 1)) ≤ 8000) (hp : cPo h G c (m + (5 + 9 * (lv - j - 1))) J (2 * w) w (fun z => (z.drop (w - 2 ^ j)).take w) (wqR j (lv - j - 1)) post) : xm_T (XE sc) (d + 5) 37 [.ref 22, .int (nI lv), .int (nI j), .int (nI 1)] h post := by
  have hsh := pw_sh j (by omega)
  have hj64 := pw_l7 (l := j) (by omega)
  refine xq_in rfl ?_
  simp only [xq_a0, xq_aI, xq_aJ, xq_aR, Nat.reduceAdd]
  with_reducible refine xm_go_blk b_X0_window_0 k_X0_window_0 ?_
  refine by_aload_n rfl ?_
  refine by_iconst ci_1 ?_
  refine by_iload_n rfl ?_
  refine by_ishl ?_
  simp (disch := first | exact Nat.ne_of_beq_eq_false rfl | exact rfl | omega) only [nI_add, xa_sub, xa_mul, pk_div, nm_mod, xa_shr, xa_and7, xa_and1, xa_and255, xa_by_and, nI_m1, Nat.add_sub_cancel, Nat.reducePow, Nat.zero_add, Nat.add_zero, Nat.reduceAdd, Nat.reduceMul, Nat.reduceSub, xf_same, xq_ff, xq_fo, xf_1, xf_2, xs_1, xs_2, xs_same, xq_so, xj_1, xj_2, xj_same, xq_jo, xq_sa1, xq_same, xq_other, upd_s, oI_n, oI_s, xv_0, xv_1, xv_2, xv_3, xm_p1, xm_p2, xq_fp, xq_fn, List.filter_nil, Nat.reduceBEq, Bool.not_true, Bool.not_false, Bool.and_true, Bool.and_false, Bool.false_and, Bool.true_and, if_true, if_false, Bool.false_eq_true, reduceIte, xc_i, xc_j, xc_r, xc_n, List.nil_append, List.cons_append, Option.toList_some, Option.toList_none, hsh]
  refine by_inv1 cn_37 lk_0_133 (by rw [xe_cnt]; decide) is_23 np_23 cn_23 (by first | exact rfl | assumption) (Nat.le_of_ble_eq_true rfl) ?_
  refine sp_middleHalves hF hI (by omega) (by omega) (fun h1 G1 c1 n1 F1 I1 e1 v1 => ?_)
  have e2 : 2 ^ (j + 1 + 0) = 2 * 2 ^ j := by rw [Nat.add_zero, Nat.pow_succ, Nat.mul_comm]
  with_reducible refine xm_go_blk b_X0_window_7 k_X0_window_7 ?_
  refine by_istore (by rw [ml_37]; decide) ?_
  refine by_iload_n rfl ?_
  refine by_iconst ci_1 ?_
  refine by_iadd ?_
  refine by_istore (by rw [ml_37]; decide) ?_
  refine by_nil ?_
  try simp (disch := first | exact Nat.ne_of_beq_eq_false rfl | exact rfl | omega) only [nI_add, xa_sub, xa_mul, pk_div, nm_mod, xa_shr, xa_and7, xa_and1, xa_and255, xa_by_and, nI_m1, Nat.add_sub_cancel, Nat.reducePow, Nat.zero_add, Nat.add_zero, Nat.reduceAdd, Nat.reduceMul, Nat.reduceSub, xf_same, xq_ff, xq_fo, xf_1, xf_2, xs_1, xs_2, xs_same, xq_so, xj_1, xj_2, xj_same, xq_jo, xq_sa1, xq_same, xq_other, upd_s, oI_n, oI_s, xv_0, xv_1, xv_2, xv_3, xm_p1, xm_p2, xq_fp, xq_fn, List.filter_nil, Nat.reduceBEq, Bool.not_true, Bool.not_false, Bool.and_true, Bool.and_false, Bool.false_and, Bool.true_and, if_true, if_false, Bool.false_eq_true, reduceIte, xc_i, xc_j, xc_r, xc_n, List.nil_append, List.cons_append, Option.toList_some, Option.toList_none]
  refine xm_go_wk (by simp [Value.category]) (wi_loopR (j := j) hlv hw (lv - j - 1) 0 c1 (m + 5) n1 h1 G1 (by omega) F1 I1 (by omega) (nG_cg v1 (by omega) (by omega) (fun x hx => ?_) (qle_rf _)) ?_)
  · rw [e2]
    show (x.take (2 ^ j + 2 ^ j)).drop (2 ^ j) ++ (x.drop (2 * 2 ^ j)).take (2 ^ j) = _
    rw [mh_seg, show 2 * 2 ^ j - 2 ^ j = 2 ^ j by omega]
  · intro h' G' c' n' k1 k2 k3 k4
    rw [Nat.zero_add] at k4
    exact hp h' G' c' n' k1 (cI_mono k2 (by omega) hm) (cE_tr e1 k3) k4
def bq (j : Nat) : gQ := (1 + (if j / 2 % 2 = 0 then 1 else 0) + (if j / 4 % 2 = 0 then 1 else 0), 0, 0)
theorem li_8 {x : List Bool} (h : x.length = 8) : ∃ a b c d e f g i, x = [a, b, c, d, e, f, g, i] := by
  match x, h with
  | [a, b, c, d, e, f, g, i], _ => exact ⟨a, b, c, d, e, f, g, i, rfl⟩
theorem sp_bitOfByte_0 {c m : Nat} {h : xm_H} {G : Nat → gN} (hF : XF h) (hI : cI h G c m J) (hm : m + 3 ≤ 8000) (hp : cPo h G c (m + 3) J 8 1 (fun x => (x.drop (7 - 0)).take 1) (bq 0) post) : xm_T (XE sc) (d + 4) 4 [.ref 22, .int (nI 0)] h post := by
  have a1 : nI 0 &&& nI 1 = nI 0 := by decide
  have a2 : nI 0 &&& nI 2 = nI 0 := by decide
  have a4 : nI 0 &&& nI 4 = nI 0 := by decide
  refine xq_in rfl ?_
  simp only [xq_a0, xq_aI, xq_aJ, xq_aR, Nat.reduceAdd]
  have E : cE h G c h G c := cE_rf
  with_reducible refine xm_go_blk b_X0_bitOfByte_0 k_X0_bitOfByte_0 ?_
  refine by_iload_n rfl ?_
  refine by_iconst ci_1 ?_
  refine by_iand ?_
  refine by_if_eq 15 rfl ?_
  simp (disch := first | exact Nat.ne_of_beq_eq_false rfl | exact rfl | omega) only [nI_add, xa_sub, xa_mul, pk_div, nm_mod, xa_shr, xa_and7, xa_and1, xa_and255, xa_by_and, nI_m1, Nat.add_sub_cancel, Nat.reducePow, Nat.zero_add, Nat.add_zero, Nat.reduceAdd, Nat.reduceMul, Nat.reduceSub, xf_same, xq_ff, xq_fo, xf_1, xf_2, xs_1, xs_2, xs_same, xq_so, xj_1, xj_2, xj_same, xq_jo, xq_sa1, xq_same, xq_other, upd_s, oI_n, oI_s, xv_0, xv_1, xv_2, xv_3, xm_p1, xm_p2, xq_fp, xq_fn, List.filter_nil, Nat.reduceBEq, Bool.not_true, Bool.not_false, Bool.and_true, Bool.and_false, Bool.false_and, Bool.true_and, if_true, if_false, Bool.false_eq_true, reduceIte, xc_i, xc_j, xc_r, xc_n, List.nil_append, List.cons_append, Option.toList_some, Option.toList_none, nI_ltJ, nI_leJ, nI_eqJ, nI_ltz, nI_gez, nI_gtz, nI_lez, nI_eqz, m1_ltz, m1_gez, true_imp_iff, false_imp_iff, true_and, and_true, ne_eq, not_false_eq_true, not_true_eq_false, Nat.reduceEqDiff, Nat.reduceLT, Nat.reduceLeDiff, a2, a4, Nat.reduceMod]
  with_reducible refine xm_go_blk b_X0_bitOfByte_15 k_X0_bitOfByte_15 ?_
  refine by_aload_n rfl ?_
  refine by_iconst ci_1 ?_
  refine by_iconst ci_1 ?_
  refine by_inv2 cn_4 lk_0_92 (by rw [xe_cnt]; decide) is_32 np_32 cn_32 (by first | exact rfl | assumption) (Nat.le_of_ble_eq_true rfl) ?_
  refine sp_second hF hI (by omega) (by omega) (fun h1 G1 c1 n1 F1 I1 e1 v1 => ?_)
  replace E := cE_tr E e1
  with_reducible refine xm_go_blk b_X0_bitOfByte_21 k_X0_bitOfByte_21 ?_
  refine by_istore_n (by rw [ml_4]; decide) ?_
  refine by_iload_n rfl ?_
  refine by_iconst ci_2 ?_
  refine by_iand ?_
  refine by_if_eq 37 rfl ?_
  simp (disch := first | exact Nat.ne_of_beq_eq_false rfl | exact rfl | omega) only [nI_add, xa_sub, xa_mul, pk_div, nm_mod, xa_shr, xa_and7, xa_and1, xa_and255, xa_by_and, nI_m1, Nat.add_sub_cancel, Nat.reducePow, Nat.zero_add, Nat.add_zero, Nat.reduceAdd, Nat.reduceMul, Nat.reduceSub, xf_same, xq_ff, xq_fo, xf_1, xf_2, xs_1, xs_2, xs_same, xq_so, xj_1, xj_2, xj_same, xq_jo, xq_sa1, xq_same, xq_other, upd_s, oI_n, oI_s, xv_0, xv_1, xv_2, xv_3, xm_p1, xm_p2, xq_fp, xq_fn, List.filter_nil, Nat.reduceBEq, Bool.not_true, Bool.not_false, Bool.and_true, Bool.and_false, Bool.false_and, Bool.true_and, if_true, if_false, Bool.false_eq_true, reduceIte, xc_i, xc_j, xc_r, xc_n, List.nil_append, List.cons_append, Option.toList_some, Option.toList_none, nI_ltJ, nI_leJ, nI_eqJ, nI_ltz, nI_gez, nI_gtz, nI_lez, nI_eqz, m1_ltz, m1_gez, true_imp_iff, false_imp_iff, true_and, and_true, ne_eq, not_false_eq_true, not_true_eq_false, Nat.reduceEqDiff, Nat.reduceLT, Nat.reduceLeDiff, a2, a4, Nat.reduceMod]
  with_reducible refine xm_go_blk b_X0_bitOfByte_37 k_X0_bitOfByte_37 ?_
  refine by_aload_n rfl ?_
  refine by_iconst ci_2 ?_
  refine by_iload_n rfl ?_
  refine by_inv2 cn_4 lk_0_47 (by rw [xe_cnt]; decide) is_12 np_12 cn_12 (by first | exact rfl | assumption) (Nat.le_of_ble_eq_true rfl) ?_
  refine sp_gdrop F1 I1 (by omega) v1 (by omega) (fun h2 G2 c2 n2 F2 I2 e2 v2 => ?_)
  replace E := cE_tr E e2
  with_reducible refine xm_go_blk b_X0_bitOfByte_43 k_X0_bitOfByte_43 ?_
  refine by_istore_n (by rw [ml_4]; decide) ?_
  refine by_iload_n rfl ?_
  refine by_iconst ci_4 ?_
  refine by_iand ?_
  refine by_if_eq 59 rfl ?_
  simp (disch := first | exact Nat.ne_of_beq_eq_false rfl | exact rfl | omega) only [nI_add, xa_sub, xa_mul, pk_div, nm_mod, xa_shr, xa_and7, xa_and1, xa_and255, xa_by_and, nI_m1, Nat.add_sub_cancel, Nat.reducePow, Nat.zero_add, Nat.add_zero, Nat.reduceAdd, Nat.reduceMul, Nat.reduceSub, xf_same, xq_ff, xq_fo, xf_1, xf_2, xs_1, xs_2, xs_same, xq_so, xj_1, xj_2, xj_same, xq_jo, xq_sa1, xq_same, xq_other, upd_s, oI_n, oI_s, xv_0, xv_1, xv_2, xv_3, xm_p1, xm_p2, xq_fp, xq_fn, List.filter_nil, Nat.reduceBEq, Bool.not_true, Bool.not_false, Bool.and_true, Bool.and_false, Bool.false_and, Bool.true_and, if_true, if_false, Bool.false_eq_true, reduceIte, xc_i, xc_j, xc_r, xc_n, List.nil_append, List.cons_append, Option.toList_some, Option.toList_none, nI_ltJ, nI_leJ, nI_eqJ, nI_ltz, nI_gez, nI_gtz, nI_lez, nI_eqz, m1_ltz, m1_gez, true_imp_iff, false_imp_iff, true_and, and_true, ne_eq, not_false_eq_true, not_true_eq_false, Nat.reduceEqDiff, Nat.reduceLT, Nat.reduceLeDiff, a2, a4, Nat.reduceMod]
  with_reducible refine xm_go_blk b_X0_bitOfByte_59 k_X0_bitOfByte_59 ?_
  refine by_aload_n rfl ?_
  refine by_iconst ci_4 ?_
  refine by_iload_n rfl ?_
  refine by_inv2 cn_4 lk_0_47 (by rw [xe_cnt]; decide) is_12 np_12 cn_12 (by first | exact rfl | assumption) (Nat.le_of_ble_eq_true rfl) ?_
  refine sp_gdrop F2 I2 (by omega) v2 (by omega) (fun h3 G3 c3 n3 F3 I3 e3 v3 => ?_)
  replace E := cE_tr E e3
  with_reducible refine xm_go_blk b_X0_bitOfByte_65 k_X0_bitOfByte_65 ?_
  refine by_iret ry_4 (by first | rfl | assumption) ?_
  refine hp _ _ _ _ F3 I3 E (nG_cg v3 (by omega) (by omega) (fun x hx => ?_) (by decide))
  obtain ⟨a, b, c, d, e, f, g, i, rfl⟩ := li_8 (x := x) (by omega)
  rfl
theorem sp_bitOfByte_1 {c m : Nat} {h : xm_H} {G : Nat → gN} (hF : XF h) (hI : cI h G c m J) (hm : m + 3 ≤ 8000) (hp : cPo h G c (m + 3) J 8 1 (fun x => (x.drop (7 - 1)).take 1) (bq 1) post) : xm_T (XE sc) (d + 4) 4 [.ref 22, .int (nI 1)] h post := by
  have a1 : nI 1 &&& nI 1 = nI 1 := by decide
  have a2 : nI 1 &&& nI 2 = nI 0 := by decide
  have a4 : nI 1 &&& nI 4 = nI 0 := by decide
  refine xq_in rfl ?_
  simp only [xq_a0, xq_aI, xq_aJ, xq_aR, Nat.reduceAdd]
  have E : cE h G c h G c := cE_rf
  with_reducible refine xm_go_blk b_X0_bitOfByte_0 k_X0_bitOfByte_0 ?_
  refine by_iload_n rfl ?_
  refine by_iconst ci_1 ?_
  refine by_iand ?_
  refine by_if_eq 15 rfl ?_
  simp (disch := first | exact Nat.ne_of_beq_eq_false rfl | exact rfl | omega) only [nI_add, xa_sub, xa_mul, pk_div, nm_mod, xa_shr, xa_and7, xa_and1, xa_and255, xa_by_and, nI_m1, Nat.add_sub_cancel, Nat.reducePow, Nat.zero_add, Nat.add_zero, Nat.reduceAdd, Nat.reduceMul, Nat.reduceSub, xf_same, xq_ff, xq_fo, xf_1, xf_2, xs_1, xs_2, xs_same, xq_so, xj_1, xj_2, xj_same, xq_jo, xq_sa1, xq_same, xq_other, upd_s, oI_n, oI_s, xv_0, xv_1, xv_2, xv_3, xm_p1, xm_p2, xq_fp, xq_fn, List.filter_nil, Nat.reduceBEq, Bool.not_true, Bool.not_false, Bool.and_true, Bool.and_false, Bool.false_and, Bool.true_and, if_true, if_false, Bool.false_eq_true, reduceIte, xc_i, xc_j, xc_r, xc_n, List.nil_append, List.cons_append, Option.toList_some, Option.toList_none, nI_ltJ, nI_leJ, nI_eqJ, nI_ltz, nI_gez, nI_gtz, nI_lez, nI_eqz, m1_ltz, m1_gez, true_imp_iff, false_imp_iff, true_and, and_true, ne_eq, not_false_eq_true, not_true_eq_false, Nat.reduceEqDiff, Nat.reduceLT, Nat.reduceLeDiff, a2, a4, Nat.reduceMod]
  with_reducible refine xm_go_blk b_X0_bitOfByte_6 k_X0_bitOfByte_6 ?_
  refine by_aload_n rfl ?_
  refine by_iconst ci_1 ?_
  refine by_iconst ci_1 ?_
  refine by_inv2 cn_4 lk_0_95 (by rw [xe_cnt]; decide) is_15 np_15 cn_15 (by first | exact rfl | assumption) (Nat.le_of_ble_eq_true rfl) ?_
  refine sp_first hF hI (by omega) (by omega) (fun h1 G1 c1 n1 F1 I1 e1 v1 => ?_)
  replace E := cE_tr E e1
  with_reducible refine xm_go_blk b_X0_bitOfByte_12 k_X0_bitOfByte_12 ?_
  refine by_goto 21 rfl ?_
  with_reducible refine xm_go_blk b_X0_bitOfByte_21 k_X0_bitOfByte_21 ?_
  refine by_istore_n (by rw [ml_4]; decide) ?_
  refine by_iload_n rfl ?_
  refine by_iconst ci_2 ?_
  refine by_iand ?_
  refine by_if_eq 37 rfl ?_
  simp (disch := first | exact Nat.ne_of_beq_eq_false rfl | exact rfl | omega) only [nI_add, xa_sub, xa_mul, pk_div, nm_mod, xa_shr, xa_and7, xa_and1, xa_and255, xa_by_and, nI_m1, Nat.add_sub_cancel, Nat.reducePow, Nat.zero_add, Nat.add_zero, Nat.reduceAdd, Nat.reduceMul, Nat.reduceSub, xf_same, xq_ff, xq_fo, xf_1, xf_2, xs_1, xs_2, xs_same, xq_so, xj_1, xj_2, xj_same, xq_jo, xq_sa1, xq_same, xq_other, upd_s, oI_n, oI_s, xv_0, xv_1, xv_2, xv_3, xm_p1, xm_p2, xq_fp, xq_fn, List.filter_nil, Nat.reduceBEq, Bool.not_true, Bool.not_false, Bool.and_true, Bool.and_false, Bool.false_and, Bool.true_and, if_true, if_false, Bool.false_eq_true, reduceIte, xc_i, xc_j, xc_r, xc_n, List.nil_append, List.cons_append, Option.toList_some, Option.toList_none, nI_ltJ, nI_leJ, nI_eqJ, nI_ltz, nI_gez, nI_gtz, nI_lez, nI_eqz, m1_ltz, m1_gez, true_imp_iff, false_imp_iff, true_and, and_true, ne_eq, not_false_eq_true, not_true_eq_false, Nat.reduceEqDiff, Nat.reduceLT, Nat.reduceLeDiff, a2, a4, Nat.reduceMod]
  with_reducible refine xm_go_blk b_X0_bitOfByte_37 k_X0_bitOfByte_37 ?_
  refine by_aload_n rfl ?_
  refine by_iconst ci_2 ?_
  refine by_iload_n rfl ?_
  refine by_inv2 cn_4 lk_0_47 (by rw [xe_cnt]; decide) is_12 np_12 cn_12 (by first | exact rfl | assumption) (Nat.le_of_ble_eq_true rfl) ?_
  refine sp_gdrop F1 I1 (by omega) v1 (by omega) (fun h2 G2 c2 n2 F2 I2 e2 v2 => ?_)
  replace E := cE_tr E e2
  with_reducible refine xm_go_blk b_X0_bitOfByte_43 k_X0_bitOfByte_43 ?_
  refine by_istore_n (by rw [ml_4]; decide) ?_
  refine by_iload_n rfl ?_
  refine by_iconst ci_4 ?_
  refine by_iand ?_
  refine by_if_eq 59 rfl ?_
  simp (disch := first | exact Nat.ne_of_beq_eq_false rfl | exact rfl | omega) only [nI_add, xa_sub, xa_mul, pk_div, nm_mod, xa_shr, xa_and7, xa_and1, xa_and255, xa_by_and, nI_m1, Nat.add_sub_cancel, Nat.reducePow, Nat.zero_add, Nat.add_zero, Nat.reduceAdd, Nat.reduceMul, Nat.reduceSub, xf_same, xq_ff, xq_fo, xf_1, xf_2, xs_1, xs_2, xs_same, xq_so, xj_1, xj_2, xj_same, xq_jo, xq_sa1, xq_same, xq_other, upd_s, oI_n, oI_s, xv_0, xv_1, xv_2, xv_3, xm_p1, xm_p2, xq_fp, xq_fn, List.filter_nil, Nat.reduceBEq, Bool.not_true, Bool.not_false, Bool.and_true, Bool.and_false, Bool.false_and, Bool.true_and, if_true, if_false, Bool.false_eq_true, reduceIte, xc_i, xc_j, xc_r, xc_n, List.nil_append, List.cons_append, Option.toList_some, Option.toList_none, nI_ltJ, nI_leJ, nI_eqJ, nI_ltz, nI_gez, nI_gtz, nI_lez, nI_eqz, m1_ltz, m1_gez, true_imp_iff, false_imp_iff, true_and, and_true, ne_eq, not_false_eq_true, not_true_eq_false, Nat.reduceEqDiff, Nat.reduceLT, Nat.reduceLeDiff, a2, a4, Nat.reduceMod]
  with_reducible refine xm_go_blk b_X0_bitOfByte_59 k_X0_bitOfByte_59 ?_
  refine by_aload_n rfl ?_
  refine by_iconst ci_4 ?_
  refine by_iload_n rfl ?_
  refine by_inv2 cn_4 lk_0_47 (by rw [xe_cnt]; decide) is_12 np_12 cn_12 (by first | exact rfl | assumption) (Nat.le_of_ble_eq_true rfl) ?_
  refine sp_gdrop F2 I2 (by omega) v2 (by omega) (fun h3 G3 c3 n3 F3 I3 e3 v3 => ?_)
  replace E := cE_tr E e3
  with_reducible refine xm_go_blk b_X0_bitOfByte_65 k_X0_bitOfByte_65 ?_
  refine by_iret ry_4 (by first | rfl | assumption) ?_
  refine hp _ _ _ _ F3 I3 E (nG_cg v3 (by omega) (by omega) (fun x hx => ?_) (by decide))
  obtain ⟨a, b, c, d, e, f, g, i, rfl⟩ := li_8 (x := x) (by omega)
  rfl
theorem sp_bitOfByte_2 {c m : Nat} {h : xm_H} {G : Nat → gN} (hF : XF h) (hI : cI h G c m J) (hm : m + 3 ≤ 8000) (hp : cPo h G c (m + 3) J 8 1 (fun x => (x.drop (7 - 2)).take 1) (bq 2) post) : xm_T (XE sc) (d + 4) 4 [.ref 22, .int (nI 2)] h post := by
  have a1 : nI 2 &&& nI 1 = nI 0 := by decide
  have a2 : nI 2 &&& nI 2 = nI 2 := by decide
  have a4 : nI 2 &&& nI 4 = nI 0 := by decide
  refine xq_in rfl ?_
  simp only [xq_a0, xq_aI, xq_aJ, xq_aR, Nat.reduceAdd]
  have E : cE h G c h G c := cE_rf
  with_reducible refine xm_go_blk b_X0_bitOfByte_0 k_X0_bitOfByte_0 ?_
  refine by_iload_n rfl ?_
  refine by_iconst ci_1 ?_
  refine by_iand ?_
  refine by_if_eq 15 rfl ?_
  simp (disch := first | exact Nat.ne_of_beq_eq_false rfl | exact rfl | omega) only [nI_add, xa_sub, xa_mul, pk_div, nm_mod, xa_shr, xa_and7, xa_and1, xa_and255, xa_by_and, nI_m1, Nat.add_sub_cancel, Nat.reducePow, Nat.zero_add, Nat.add_zero, Nat.reduceAdd, Nat.reduceMul, Nat.reduceSub, xf_same, xq_ff, xq_fo, xf_1, xf_2, xs_1, xs_2, xs_same, xq_so, xj_1, xj_2, xj_same, xq_jo, xq_sa1, xq_same, xq_other, upd_s, oI_n, oI_s, xv_0, xv_1, xv_2, xv_3, xm_p1, xm_p2, xq_fp, xq_fn, List.filter_nil, Nat.reduceBEq, Bool.not_true, Bool.not_false, Bool.and_true, Bool.and_false, Bool.false_and, Bool.true_and, if_true, if_false, Bool.false_eq_true, reduceIte, xc_i, xc_j, xc_r, xc_n, List.nil_append, List.cons_append, Option.toList_some, Option.toList_none, nI_ltJ, nI_leJ, nI_eqJ, nI_ltz, nI_gez, nI_gtz, nI_lez, nI_eqz, m1_ltz, m1_gez, true_imp_iff, false_imp_iff, true_and, and_true, ne_eq, not_false_eq_true, not_true_eq_false, Nat.reduceEqDiff, Nat.reduceLT, Nat.reduceLeDiff, a2, a4, Nat.reduceMod]
  with_reducible refine xm_go_blk b_X0_bitOfByte_15 k_X0_bitOfByte_15 ?_
  refine by_aload_n rfl ?_
  refine by_iconst ci_1 ?_
  refine by_iconst ci_1 ?_
  refine by_inv2 cn_4 lk_0_92 (by rw [xe_cnt]; decide) is_32 np_32 cn_32 (by first | exact rfl | assumption) (Nat.le_of_ble_eq_true rfl) ?_
  refine sp_second hF hI (by omega) (by omega) (fun h1 G1 c1 n1 F1 I1 e1 v1 => ?_)
  replace E := cE_tr E e1
  with_reducible refine xm_go_blk b_X0_bitOfByte_21 k_X0_bitOfByte_21 ?_
  refine by_istore_n (by rw [ml_4]; decide) ?_
  refine by_iload_n rfl ?_
  refine by_iconst ci_2 ?_
  refine by_iand ?_
  refine by_if_eq 37 rfl ?_
  simp (disch := first | exact Nat.ne_of_beq_eq_false rfl | exact rfl | omega) only [nI_add, xa_sub, xa_mul, pk_div, nm_mod, xa_shr, xa_and7, xa_and1, xa_and255, xa_by_and, nI_m1, Nat.add_sub_cancel, Nat.reducePow, Nat.zero_add, Nat.add_zero, Nat.reduceAdd, Nat.reduceMul, Nat.reduceSub, xf_same, xq_ff, xq_fo, xf_1, xf_2, xs_1, xs_2, xs_same, xq_so, xj_1, xj_2, xj_same, xq_jo, xq_sa1, xq_same, xq_other, upd_s, oI_n, oI_s, xv_0, xv_1, xv_2, xv_3, xm_p1, xm_p2, xq_fp, xq_fn, List.filter_nil, Nat.reduceBEq, Bool.not_true, Bool.not_false, Bool.and_true, Bool.and_false, Bool.false_and, Bool.true_and, if_true, if_false, Bool.false_eq_true, reduceIte, xc_i, xc_j, xc_r, xc_n, List.nil_append, List.cons_append, Option.toList_some, Option.toList_none, nI_ltJ, nI_leJ, nI_eqJ, nI_ltz, nI_gez, nI_gtz, nI_lez, nI_eqz, m1_ltz, m1_gez, true_imp_iff, false_imp_iff, true_and, and_true, ne_eq, not_false_eq_true, not_true_eq_false, Nat.reduceEqDiff, Nat.reduceLT, Nat.reduceLeDiff, a2, a4, Nat.reduceMod]
  with_reducible refine xm_go_blk b_X0_bitOfByte_28 k_X0_bitOfByte_28 ?_
  refine by_aload_n rfl ?_
  refine by_iload_n rfl ?_
  refine by_iconst ci_2 ?_
  refine by_inv2 cn_4 lk_0_101 (by rw [xe_cnt]; decide) is_33 np_33 cn_33 (by first | exact rfl | assumption) (Nat.le_of_ble_eq_true rfl) ?_
  refine sp_gtake F1 I1 (by omega) v1 (by omega) (fun h2 G2 c2 n2 F2 I2 e2 v2 => ?_)
  replace E := cE_tr E e2
  with_reducible refine xm_go_blk b_X0_bitOfByte_34 k_X0_bitOfByte_34 ?_
  refine by_goto 43 rfl ?_
  with_reducible refine xm_go_blk b_X0_bitOfByte_43 k_X0_bitOfByte_43 ?_
  refine by_istore_n (by rw [ml_4]; decide) ?_
  refine by_iload_n rfl ?_
  refine by_iconst ci_4 ?_
  refine by_iand ?_
  refine by_if_eq 59 rfl ?_
  simp (disch := first | exact Nat.ne_of_beq_eq_false rfl | exact rfl | omega) only [nI_add, xa_sub, xa_mul, pk_div, nm_mod, xa_shr, xa_and7, xa_and1, xa_and255, xa_by_and, nI_m1, Nat.add_sub_cancel, Nat.reducePow, Nat.zero_add, Nat.add_zero, Nat.reduceAdd, Nat.reduceMul, Nat.reduceSub, xf_same, xq_ff, xq_fo, xf_1, xf_2, xs_1, xs_2, xs_same, xq_so, xj_1, xj_2, xj_same, xq_jo, xq_sa1, xq_same, xq_other, upd_s, oI_n, oI_s, xv_0, xv_1, xv_2, xv_3, xm_p1, xm_p2, xq_fp, xq_fn, List.filter_nil, Nat.reduceBEq, Bool.not_true, Bool.not_false, Bool.and_true, Bool.and_false, Bool.false_and, Bool.true_and, if_true, if_false, Bool.false_eq_true, reduceIte, xc_i, xc_j, xc_r, xc_n, List.nil_append, List.cons_append, Option.toList_some, Option.toList_none, nI_ltJ, nI_leJ, nI_eqJ, nI_ltz, nI_gez, nI_gtz, nI_lez, nI_eqz, m1_ltz, m1_gez, true_imp_iff, false_imp_iff, true_and, and_true, ne_eq, not_false_eq_true, not_true_eq_false, Nat.reduceEqDiff, Nat.reduceLT, Nat.reduceLeDiff, a2, a4, Nat.reduceMod]
  with_reducible refine xm_go_blk b_X0_bitOfByte_59 k_X0_bitOfByte_59 ?_
  refine by_aload_n rfl ?_
  refine by_iconst ci_4 ?_
  refine by_iload_n rfl ?_
  refine by_inv2 cn_4 lk_0_47 (by rw [xe_cnt]; decide) is_12 np_12 cn_12 (by first | exact rfl | assumption) (Nat.le_of_ble_eq_true rfl) ?_
  refine sp_gdrop F2 I2 (by omega) v2 (by omega) (fun h3 G3 c3 n3 F3 I3 e3 v3 => ?_)
  replace E := cE_tr E e3
  with_reducible refine xm_go_blk b_X0_bitOfByte_65 k_X0_bitOfByte_65 ?_
  refine by_iret ry_4 (by first | rfl | assumption) ?_
  refine hp _ _ _ _ F3 I3 E (nG_cg v3 (by omega) (by omega) (fun x hx => ?_) (by decide))
  obtain ⟨a, b, c, d, e, f, g, i, rfl⟩ := li_8 (x := x) (by omega)
  rfl
theorem sp_bitOfByte_3 {c m : Nat} {h : xm_H} {G : Nat → gN} (hF : XF h) (hI : cI h G c m J) (hm : m + 3 ≤ 8000) (hp : cPo h G c (m + 3) J 8 1 (fun x => (x.drop (7 - 3)).take 1) (bq 3) post) : xm_T (XE sc) (d + 4) 4 [.ref 22, .int (nI 3)] h post := by
  have a1 : nI 3 &&& nI 1 = nI 1 := by decide
  have a2 : nI 3 &&& nI 2 = nI 2 := by decide
  have a4 : nI 3 &&& nI 4 = nI 0 := by decide
  refine xq_in rfl ?_
  simp only [xq_a0, xq_aI, xq_aJ, xq_aR, Nat.reduceAdd]
  have E : cE h G c h G c := cE_rf
  with_reducible refine xm_go_blk b_X0_bitOfByte_0 k_X0_bitOfByte_0 ?_
  refine by_iload_n rfl ?_
  refine by_iconst ci_1 ?_
  refine by_iand ?_
  refine by_if_eq 15 rfl ?_
  simp (disch := first | exact Nat.ne_of_beq_eq_false rfl | exact rfl | omega) only [nI_add, xa_sub, xa_mul, pk_div, nm_mod, xa_shr, xa_and7, xa_and1, xa_and255, xa_by_and, nI_m1, Nat.add_sub_cancel, Nat.reducePow, Nat.zero_add, Nat.add_zero, Nat.reduceAdd, Nat.reduceMul, Nat.reduceSub, xf_same, xq_ff, xq_fo, xf_1, xf_2, xs_1, xs_2, xs_same, xq_so, xj_1, xj_2, xj_same, xq_jo, xq_sa1, xq_same, xq_other, upd_s, oI_n, oI_s, xv_0, xv_1, xv_2, xv_3, xm_p1, xm_p2, xq_fp, xq_fn, List.filter_nil, Nat.reduceBEq, Bool.not_true, Bool.not_false, Bool.and_true, Bool.and_false, Bool.false_and, Bool.true_and, if_true, if_false, Bool.false_eq_true, reduceIte, xc_i, xc_j, xc_r, xc_n, List.nil_append, List.cons_append, Option.toList_some, Option.toList_none, nI_ltJ, nI_leJ, nI_eqJ, nI_ltz, nI_gez, nI_gtz, nI_lez, nI_eqz, m1_ltz, m1_gez, true_imp_iff, false_imp_iff, true_and, and_true, ne_eq, not_false_eq_true, not_true_eq_false, Nat.reduceEqDiff, Nat.reduceLT, Nat.reduceLeDiff, a2, a4, Nat.reduceMod]
  with_reducible refine xm_go_blk b_X0_bitOfByte_6 k_X0_bitOfByte_6 ?_
  refine by_aload_n rfl ?_
  refine by_iconst ci_1 ?_
  refine by_iconst ci_1 ?_
  refine by_inv2 cn_4 lk_0_95 (by rw [xe_cnt]; decide) is_15 np_15 cn_15 (by first | exact rfl | assumption) (Nat.le_of_ble_eq_true rfl) ?_
  refine sp_first hF hI (by omega) (by omega) (fun h1 G1 c1 n1 F1 I1 e1 v1 => ?_)
  replace E := cE_tr E e1
  with_reducible refine xm_go_blk b_X0_bitOfByte_12 k_X0_bitOfByte_12 ?_
  refine by_goto 21 rfl ?_
  with_reducible refine xm_go_blk b_X0_bitOfByte_21 k_X0_bitOfByte_21 ?_
  refine by_istore_n (by rw [ml_4]; decide) ?_
  refine by_iload_n rfl ?_
  refine by_iconst ci_2 ?_
  refine by_iand ?_
  refine by_if_eq 37 rfl ?_
  simp (disch := first | exact Nat.ne_of_beq_eq_false rfl | exact rfl | omega) only [nI_add, xa_sub, xa_mul, pk_div, nm_mod, xa_shr, xa_and7, xa_and1, xa_and255, xa_by_and, nI_m1, Nat.add_sub_cancel, Nat.reducePow, Nat.zero_add, Nat.add_zero, Nat.reduceAdd, Nat.reduceMul, Nat.reduceSub, xf_same, xq_ff, xq_fo, xf_1, xf_2, xs_1, xs_2, xs_same, xq_so, xj_1, xj_2, xj_same, xq_jo, xq_sa1, xq_same, xq_other, upd_s, oI_n, oI_s, xv_0, xv_1, xv_2, xv_3, xm_p1, xm_p2, xq_fp, xq_fn, List.filter_nil, Nat.reduceBEq, Bool.not_true, Bool.not_false, Bool.and_true, Bool.and_false, Bool.false_and, Bool.true_and, if_true, if_false, Bool.false_eq_true, reduceIte, xc_i, xc_j, xc_r, xc_n, List.nil_append, List.cons_append, Option.toList_some, Option.toList_none, nI_ltJ, nI_leJ, nI_eqJ, nI_ltz, nI_gez, nI_gtz, nI_lez, nI_eqz, m1_ltz, m1_gez, true_imp_iff, false_imp_iff, true_and, and_true, ne_eq, not_false_eq_true, not_true_eq_false, Nat.reduceEqDiff, Nat.reduceLT, Nat.reduceLeDiff, a2, a4, Nat.reduceMod]
  with_reducible refine xm_go_blk b_X0_bitOfByte_28 k_X0_bitOfByte_28 ?_
  refine by_aload_n rfl ?_
  refine by_iload_n rfl ?_
  refine by_iconst ci_2 ?_
  refine by_inv2 cn_4 lk_0_101 (by rw [xe_cnt]; decide) is_33 np_33 cn_33 (by first | exact rfl | assumption) (Nat.le_of_ble_eq_true rfl) ?_
  refine sp_gtake F1 I1 (by omega) v1 (by omega) (fun h2 G2 c2 n2 F2 I2 e2 v2 => ?_)
  replace E := cE_tr E e2
  with_reducible refine xm_go_blk b_X0_bitOfByte_34 k_X0_bitOfByte_34 ?_
  refine by_goto 43 rfl ?_
  with_reducible refine xm_go_blk b_X0_bitOfByte_43 k_X0_bitOfByte_43 ?_
  refine by_istore_n (by rw [ml_4]; decide) ?_
  refine by_iload_n rfl ?_
  refine by_iconst ci_4 ?_
  refine by_iand ?_
  refine by_if_eq 59 rfl ?_
  simp (disch := first | exact Nat.ne_of_beq_eq_false rfl | exact rfl | omega) only [nI_add, xa_sub, xa_mul, pk_div, nm_mod, xa_shr, xa_and7, xa_and1, xa_and255, xa_by_and, nI_m1, Nat.add_sub_cancel, Nat.reducePow, Nat.zero_add, Nat.add_zero, Nat.reduceAdd, Nat.reduceMul, Nat.reduceSub, xf_same, xq_ff, xq_fo, xf_1, xf_2, xs_1, xs_2, xs_same, xq_so, xj_1, xj_2, xj_same, xq_jo, xq_sa1, xq_same, xq_other, upd_s, oI_n, oI_s, xv_0, xv_1, xv_2, xv_3, xm_p1, xm_p2, xq_fp, xq_fn, List.filter_nil, Nat.reduceBEq, Bool.not_true, Bool.not_false, Bool.and_true, Bool.and_false, Bool.false_and, Bool.true_and, if_true, if_false, Bool.false_eq_true, reduceIte, xc_i, xc_j, xc_r, xc_n, List.nil_append, List.cons_append, Option.toList_some, Option.toList_none, nI_ltJ, nI_leJ, nI_eqJ, nI_ltz, nI_gez, nI_gtz, nI_lez, nI_eqz, m1_ltz, m1_gez, true_imp_iff, false_imp_iff, true_and, and_true, ne_eq, not_false_eq_true, not_true_eq_false, Nat.reduceEqDiff, Nat.reduceLT, Nat.reduceLeDiff, a2, a4, Nat.reduceMod]
  with_reducible refine xm_go_blk b_X0_bitOfByte_59 k_X0_bitOfByte_59 ?_
  refine by_aload_n rfl ?_
  refine by_iconst ci_4 ?_
  refine by_iload_n rfl ?_
  refine by_inv2 cn_4 lk_0_47 (by rw [xe_cnt]; decide) is_12 np_12 cn_12 (by first | exact rfl | assumption) (Nat.le_of_ble_eq_true rfl) ?_
  refine sp_gdrop F2 I2 (by omega) v2 (by omega) (fun h3 G3 c3 n3 F3 I3 e3 v3 => ?_)
  replace E := cE_tr E e3
  with_reducible refine xm_go_blk b_X0_bitOfByte_65 k_X0_bitOfByte_65 ?_
  refine by_iret ry_4 (by first | rfl | assumption) ?_
  refine hp _ _ _ _ F3 I3 E (nG_cg v3 (by omega) (by omega) (fun x hx => ?_) (by decide))
  obtain ⟨a, b, c, d, e, f, g, i, rfl⟩ := li_8 (x := x) (by omega)
  rfl
theorem sp_bitOfByte_4 {c m : Nat} {h : xm_H} {G : Nat → gN} (hF : XF h) (hI : cI h G c m J) (hm : m + 3 ≤ 8000) (hp : cPo h G c (m + 3) J 8 1 (fun x => (x.drop (7 - 4)).take 1) (bq 4) post) : xm_T (XE sc) (d + 4) 4 [.ref 22, .int (nI 4)] h post := by
  have a1 : nI 4 &&& nI 1 = nI 0 := by decide
  have a2 : nI 4 &&& nI 2 = nI 0 := by decide
  have a4 : nI 4 &&& nI 4 = nI 4 := by decide
  refine xq_in rfl ?_
  simp only [xq_a0, xq_aI, xq_aJ, xq_aR, Nat.reduceAdd]
  have E : cE h G c h G c := cE_rf
  with_reducible refine xm_go_blk b_X0_bitOfByte_0 k_X0_bitOfByte_0 ?_
  refine by_iload_n rfl ?_
  refine by_iconst ci_1 ?_
  refine by_iand ?_
  refine by_if_eq 15 rfl ?_
  simp (disch := first | exact Nat.ne_of_beq_eq_false rfl | exact rfl | omega) only [nI_add, xa_sub, xa_mul, pk_div, nm_mod, xa_shr, xa_and7, xa_and1, xa_and255, xa_by_and, nI_m1, Nat.add_sub_cancel, Nat.reducePow, Nat.zero_add, Nat.add_zero, Nat.reduceAdd, Nat.reduceMul, Nat.reduceSub, xf_same, xq_ff, xq_fo, xf_1, xf_2, xs_1, xs_2, xs_same, xq_so, xj_1, xj_2, xj_same, xq_jo, xq_sa1, xq_same, xq_other, upd_s, oI_n, oI_s, xv_0, xv_1, xv_2, xv_3, xm_p1, xm_p2, xq_fp, xq_fn, List.filter_nil, Nat.reduceBEq, Bool.not_true, Bool.not_false, Bool.and_true, Bool.and_false, Bool.false_and, Bool.true_and, if_true, if_false, Bool.false_eq_true, reduceIte, xc_i, xc_j, xc_r, xc_n, List.nil_append, List.cons_append, Option.toList_some, Option.toList_none, nI_ltJ, nI_leJ, nI_eqJ, nI_ltz, nI_gez, nI_gtz, nI_lez, nI_eqz, m1_ltz, m1_gez, true_imp_iff, false_imp_iff, true_and, and_true, ne_eq, not_false_eq_true, not_true_eq_false, Nat.reduceEqDiff, Nat.reduceLT, Nat.reduceLeDiff, a2, a4, Nat.reduceMod]
  with_reducible refine xm_go_blk b_X0_bitOfByte_15 k_X0_bitOfByte_15 ?_
  refine by_aload_n rfl ?_
  refine by_iconst ci_1 ?_
  refine by_iconst ci_1 ?_
  refine by_inv2 cn_4 lk_0_92 (by rw [xe_cnt]; decide) is_32 np_32 cn_32 (by first | exact rfl | assumption) (Nat.le_of_ble_eq_true rfl) ?_
  refine sp_second hF hI (by omega) (by omega) (fun h1 G1 c1 n1 F1 I1 e1 v1 => ?_)
  replace E := cE_tr E e1
  with_reducible refine xm_go_blk b_X0_bitOfByte_21 k_X0_bitOfByte_21 ?_
  refine by_istore_n (by rw [ml_4]; decide) ?_
  refine by_iload_n rfl ?_
  refine by_iconst ci_2 ?_
  refine by_iand ?_
  refine by_if_eq 37 rfl ?_
  simp (disch := first | exact Nat.ne_of_beq_eq_false rfl | exact rfl | omega) only [nI_add, xa_sub, xa_mul, pk_div, nm_mod, xa_shr, xa_and7, xa_and1, xa_and255, xa_by_and, nI_m1, Nat.add_sub_cancel, Nat.reducePow, Nat.zero_add, Nat.add_zero, Nat.reduceAdd, Nat.reduceMul, Nat.reduceSub, xf_same, xq_ff, xq_fo, xf_1, xf_2, xs_1, xs_2, xs_same, xq_so, xj_1, xj_2, xj_same, xq_jo, xq_sa1, xq_same, xq_other, upd_s, oI_n, oI_s, xv_0, xv_1, xv_2, xv_3, xm_p1, xm_p2, xq_fp, xq_fn, List.filter_nil, Nat.reduceBEq, Bool.not_true, Bool.not_false, Bool.and_true, Bool.and_false, Bool.false_and, Bool.true_and, if_true, if_false, Bool.false_eq_true, reduceIte, xc_i, xc_j, xc_r, xc_n, List.nil_append, List.cons_append, Option.toList_some, Option.toList_none, nI_ltJ, nI_leJ, nI_eqJ, nI_ltz, nI_gez, nI_gtz, nI_lez, nI_eqz, m1_ltz, m1_gez, true_imp_iff, false_imp_iff, true_and, and_true, ne_eq, not_false_eq_true, not_true_eq_false, Nat.reduceEqDiff, Nat.reduceLT, Nat.reduceLeDiff, a2, a4, Nat.reduceMod]
  with_reducible refine xm_go_blk b_X0_bitOfByte_37 k_X0_bitOfByte_37 ?_
  refine by_aload_n rfl ?_
  refine by_iconst ci_2 ?_
  refine by_iload_n rfl ?_
  refine by_inv2 cn_4 lk_0_47 (by rw [xe_cnt]; decide) is_12 np_12 cn_12 (by first | exact rfl | assumption) (Nat.le_of_ble_eq_true rfl) ?_
  refine sp_gdrop F1 I1 (by omega) v1 (by omega) (fun h2 G2 c2 n2 F2 I2 e2 v2 => ?_)
  replace E := cE_tr E e2
  with_reducible refine xm_go_blk b_X0_bitOfByte_43 k_X0_bitOfByte_43 ?_
  refine by_istore_n (by rw [ml_4]; decide) ?_
  refine by_iload_n rfl ?_
  refine by_iconst ci_4 ?_
  refine by_iand ?_
  refine by_if_eq 59 rfl ?_
  simp (disch := first | exact Nat.ne_of_beq_eq_false rfl | exact rfl | omega) only [nI_add, xa_sub, xa_mul, pk_div, nm_mod, xa_shr, xa_and7, xa_and1, xa_and255, xa_by_and, nI_m1, Nat.add_sub_cancel, Nat.reducePow, Nat.zero_add, Nat.add_zero, Nat.reduceAdd, Nat.reduceMul, Nat.reduceSub, xf_same, xq_ff, xq_fo, xf_1, xf_2, xs_1, xs_2, xs_same, xq_so, xj_1, xj_2, xj_same, xq_jo, xq_sa1, xq_same, xq_other, upd_s, oI_n, oI_s, xv_0, xv_1, xv_2, xv_3, xm_p1, xm_p2, xq_fp, xq_fn, List.filter_nil, Nat.reduceBEq, Bool.not_true, Bool.not_false, Bool.and_true, Bool.and_false, Bool.false_and, Bool.true_and, if_true, if_false, Bool.false_eq_true, reduceIte, xc_i, xc_j, xc_r, xc_n, List.nil_append, List.cons_append, Option.toList_some, Option.toList_none, nI_ltJ, nI_leJ, nI_eqJ, nI_ltz, nI_gez, nI_gtz, nI_lez, nI_eqz, m1_ltz, m1_gez, true_imp_iff, false_imp_iff, true_and, and_true, ne_eq, not_false_eq_true, not_true_eq_false, Nat.reduceEqDiff, Nat.reduceLT, Nat.reduceLeDiff, a2, a4, Nat.reduceMod]
  with_reducible refine xm_go_blk b_X0_bitOfByte_50 k_X0_bitOfByte_50 ?_
  refine by_aload_n rfl ?_
  refine by_iload_n rfl ?_
  refine by_iconst ci_4 ?_
  refine by_inv2 cn_4 lk_0_101 (by rw [xe_cnt]; decide) is_33 np_33 cn_33 (by first | exact rfl | assumption) (Nat.le_of_ble_eq_true rfl) ?_
  refine sp_gtake F2 I2 (by omega) v2 (by omega) (fun h3 G3 c3 n3 F3 I3 e3 v3 => ?_)
  replace E := cE_tr E e3
  with_reducible refine xm_go_blk b_X0_bitOfByte_56 k_X0_bitOfByte_56 ?_
  refine by_goto 65 rfl ?_
  with_reducible refine xm_go_blk b_X0_bitOfByte_65 k_X0_bitOfByte_65 ?_
  refine by_iret ry_4 (by first | rfl | assumption) ?_
  refine hp _ _ _ _ F3 I3 E (nG_cg v3 (by omega) (by omega) (fun x hx => ?_) (by decide))
  obtain ⟨a, b, c, d, e, f, g, i, rfl⟩ := li_8 (x := x) (by omega)
  rfl
theorem sp_bitOfByte_5 {c m : Nat} {h : xm_H} {G : Nat → gN} (hF : XF h) (hI : cI h G c m J) (hm : m + 3 ≤ 8000) (hp : cPo h G c (m + 3) J 8 1 (fun x => (x.drop (7 - 5)).take 1) (bq 5) post) : xm_T (XE sc) (d + 4) 4 [.ref 22, .int (nI 5)] h post := by
  have a1 : nI 5 &&& nI 1 = nI 1 := by decide
  have a2 : nI 5 &&& nI 2 = nI 0 := by decide
  have a4 : nI 5 &&& nI 4 = nI 4 := by decide
  refine xq_in rfl ?_
  simp only [xq_a0, xq_aI, xq_aJ, xq_aR, Nat.reduceAdd]
  have E : cE h G c h G c := cE_rf
  with_reducible refine xm_go_blk b_X0_bitOfByte_0 k_X0_bitOfByte_0 ?_
  refine by_iload_n rfl ?_
  refine by_iconst ci_1 ?_
  refine by_iand ?_
  refine by_if_eq 15 rfl ?_
  simp (disch := first | exact Nat.ne_of_beq_eq_false rfl | exact rfl | omega) only [nI_add, xa_sub, xa_mul, pk_div, nm_mod, xa_shr, xa_and7, xa_and1, xa_and255, xa_by_and, nI_m1, Nat.add_sub_cancel, Nat.reducePow, Nat.zero_add, Nat.add_zero, Nat.reduceAdd, Nat.reduceMul, Nat.reduceSub, xf_same, xq_ff, xq_fo, xf_1, xf_2, xs_1, xs_2, xs_same, xq_so, xj_1, xj_2, xj_same, xq_jo, xq_sa1, xq_same, xq_other, upd_s, oI_n, oI_s, xv_0, xv_1, xv_2, xv_3, xm_p1, xm_p2, xq_fp, xq_fn, List.filter_nil, Nat.reduceBEq, Bool.not_true, Bool.not_false, Bool.and_true, Bool.and_false, Bool.false_and, Bool.true_and, if_true, if_false, Bool.false_eq_true, reduceIte, xc_i, xc_j, xc_r, xc_n, List.nil_append, List.cons_append, Option.toList_some, Option.toList_none, nI_ltJ, nI_leJ, nI_eqJ, nI_ltz, nI_gez, nI_gtz, nI_lez, nI_eqz, m1_ltz, m1_gez, true_imp_iff, false_imp_iff, true_and, and_true, ne_eq, not_false_eq_true, not_true_eq_false, Nat.reduceEqDiff, Nat.reduceLT, Nat.reduceLeDiff, a2, a4, Nat.reduceMod]
  with_reducible refine xm_go_blk b_X0_bitOfByte_6 k_X0_bitOfByte_6 ?_
  refine by_aload_n rfl ?_
  refine by_iconst ci_1 ?_
  refine by_iconst ci_1 ?_
  refine by_inv2 cn_4 lk_0_95 (by rw [xe_cnt]; decide) is_15 np_15 cn_15 (by first | exact rfl | assumption) (Nat.le_of_ble_eq_true rfl) ?_
  refine sp_first hF hI (by omega) (by omega) (fun h1 G1 c1 n1 F1 I1 e1 v1 => ?_)
  replace E := cE_tr E e1
  with_reducible refine xm_go_blk b_X0_bitOfByte_12 k_X0_bitOfByte_12 ?_
  refine by_goto 21 rfl ?_
  with_reducible refine xm_go_blk b_X0_bitOfByte_21 k_X0_bitOfByte_21 ?_
  refine by_istore_n (by rw [ml_4]; decide) ?_
  refine by_iload_n rfl ?_
  refine by_iconst ci_2 ?_
  refine by_iand ?_
  refine by_if_eq 37 rfl ?_
  simp (disch := first | exact Nat.ne_of_beq_eq_false rfl | exact rfl | omega) only [nI_add, xa_sub, xa_mul, pk_div, nm_mod, xa_shr, xa_and7, xa_and1, xa_and255, xa_by_and, nI_m1, Nat.add_sub_cancel, Nat.reducePow, Nat.zero_add, Nat.add_zero, Nat.reduceAdd, Nat.reduceMul, Nat.reduceSub, xf_same, xq_ff, xq_fo, xf_1, xf_2, xs_1, xs_2, xs_same, xq_so, xj_1, xj_2, xj_same, xq_jo, xq_sa1, xq_same, xq_other, upd_s, oI_n, oI_s, xv_0, xv_1, xv_2, xv_3, xm_p1, xm_p2, xq_fp, xq_fn, List.filter_nil, Nat.reduceBEq, Bool.not_true, Bool.not_false, Bool.and_true, Bool.and_false, Bool.false_and, Bool.true_and, if_true, if_false, Bool.false_eq_true, reduceIte, xc_i, xc_j, xc_r, xc_n, List.nil_append, List.cons_append, Option.toList_some, Option.toList_none, nI_ltJ, nI_leJ, nI_eqJ, nI_ltz, nI_gez, nI_gtz, nI_lez, nI_eqz, m1_ltz, m1_gez, true_imp_iff, false_imp_iff, true_and, and_true, ne_eq, not_false_eq_true, not_true_eq_false, Nat.reduceEqDiff, Nat.reduceLT, Nat.reduceLeDiff, a2, a4, Nat.reduceMod]
  with_reducible refine xm_go_blk b_X0_bitOfByte_37 k_X0_bitOfByte_37 ?_
  refine by_aload_n rfl ?_
  refine by_iconst ci_2 ?_
  refine by_iload_n rfl ?_
  refine by_inv2 cn_4 lk_0_47 (by rw [xe_cnt]; decide) is_12 np_12 cn_12 (by first | exact rfl | assumption) (Nat.le_of_ble_eq_true rfl) ?_
  refine sp_gdrop F1 I1 (by omega) v1 (by omega) (fun h2 G2 c2 n2 F2 I2 e2 v2 => ?_)
  replace E := cE_tr E e2
  with_reducible refine xm_go_blk b_X0_bitOfByte_43 k_X0_bitOfByte_43 ?_
  refine by_istore_n (by rw [ml_4]; decide) ?_
  refine by_iload_n rfl ?_
  refine by_iconst ci_4 ?_
  refine by_iand ?_
  refine by_if_eq 59 rfl ?_
  simp (disch := first | exact Nat.ne_of_beq_eq_false rfl | exact rfl | omega) only [nI_add, xa_sub, xa_mul, pk_div, nm_mod, xa_shr, xa_and7, xa_and1, xa_and255, xa_by_and, nI_m1, Nat.add_sub_cancel, Nat.reducePow, Nat.zero_add, Nat.add_zero, Nat.reduceAdd, Nat.reduceMul, Nat.reduceSub, xf_same, xq_ff, xq_fo, xf_1, xf_2, xs_1, xs_2, xs_same, xq_so, xj_1, xj_2, xj_same, xq_jo, xq_sa1, xq_same, xq_other, upd_s, oI_n, oI_s, xv_0, xv_1, xv_2, xv_3, xm_p1, xm_p2, xq_fp, xq_fn, List.filter_nil, Nat.reduceBEq, Bool.not_true, Bool.not_false, Bool.and_true, Bool.and_false, Bool.false_and, Bool.true_and, if_true, if_false, Bool.false_eq_true, reduceIte, xc_i, xc_j, xc_r, xc_n, List.nil_append, List.cons_append, Option.toList_some, Option.toList_none, nI_ltJ, nI_leJ, nI_eqJ, nI_ltz, nI_gez, nI_gtz, nI_lez, nI_eqz, m1_ltz, m1_gez, true_imp_iff, false_imp_iff, true_and, and_true, ne_eq, not_false_eq_true, not_true_eq_false, Nat.reduceEqDiff, Nat.reduceLT, Nat.reduceLeDiff, a2, a4, Nat.reduceMod]
  with_reducible refine xm_go_blk b_X0_bitOfByte_50 k_X0_bitOfByte_50 ?_
  refine by_aload_n rfl ?_
  refine by_iload_n rfl ?_
  refine by_iconst ci_4 ?_
  refine by_inv2 cn_4 lk_0_101 (by rw [xe_cnt]; decide) is_33 np_33 cn_33 (by first | exact rfl | assumption) (Nat.le_of_ble_eq_true rfl) ?_
  refine sp_gtake F2 I2 (by omega) v2 (by omega) (fun h3 G3 c3 n3 F3 I3 e3 v3 => ?_)
  replace E := cE_tr E e3
  with_reducible refine xm_go_blk b_X0_bitOfByte_56 k_X0_bitOfByte_56 ?_
  refine by_goto 65 rfl ?_
  with_reducible refine xm_go_blk b_X0_bitOfByte_65 k_X0_bitOfByte_65 ?_
  refine by_iret ry_4 (by first | rfl | assumption) ?_
  refine hp _ _ _ _ F3 I3 E (nG_cg v3 (by omega) (by omega) (fun x hx => ?_) (by decide))
  obtain ⟨a, b, c, d, e, f, g, i, rfl⟩ := li_8 (x := x) (by omega)
  rfl
theorem sp_bitOfByte_6 {c m : Nat} {h : xm_H} {G : Nat → gN} (hF : XF h) (hI : cI h G c m J) (hm : m + 3 ≤ 8000) (hp : cPo h G c (m + 3) J 8 1 (fun x => (x.drop (7 - 6)).take 1) (bq 6) post) : xm_T (XE sc) (d + 4) 4 [.ref 22, .int (nI 6)] h post := by
  have a1 : nI 6 &&& nI 1 = nI 0 := by decide
  have a2 : nI 6 &&& nI 2 = nI 2 := by decide
  have a4 : nI 6 &&& nI 4 = nI 4 := by decide
  refine xq_in rfl ?_
  simp only [xq_a0, xq_aI, xq_aJ, xq_aR, Nat.reduceAdd]
  have E : cE h G c h G c := cE_rf
  with_reducible refine xm_go_blk b_X0_bitOfByte_0 k_X0_bitOfByte_0 ?_
  refine by_iload_n rfl ?_
  refine by_iconst ci_1 ?_
  refine by_iand ?_
  refine by_if_eq 15 rfl ?_
  simp (disch := first | exact Nat.ne_of_beq_eq_false rfl | exact rfl | omega) only [nI_add, xa_sub, xa_mul, pk_div, nm_mod, xa_shr, xa_and7, xa_and1, xa_and255, xa_by_and, nI_m1, Nat.add_sub_cancel, Nat.reducePow, Nat.zero_add, Nat.add_zero, Nat.reduceAdd, Nat.reduceMul, Nat.reduceSub, xf_same, xq_ff, xq_fo, xf_1, xf_2, xs_1, xs_2, xs_same, xq_so, xj_1, xj_2, xj_same, xq_jo, xq_sa1, xq_same, xq_other, upd_s, oI_n, oI_s, xv_0, xv_1, xv_2, xv_3, xm_p1, xm_p2, xq_fp, xq_fn, List.filter_nil, Nat.reduceBEq, Bool.not_true, Bool.not_false, Bool.and_true, Bool.and_false, Bool.false_and, Bool.true_and, if_true, if_false, Bool.false_eq_true, reduceIte, xc_i, xc_j, xc_r, xc_n, List.nil_append, List.cons_append, Option.toList_some, Option.toList_none, nI_ltJ, nI_leJ, nI_eqJ, nI_ltz, nI_gez, nI_gtz, nI_lez, nI_eqz, m1_ltz, m1_gez, true_imp_iff, false_imp_iff, true_and, and_true, ne_eq, not_false_eq_true, not_true_eq_false, Nat.reduceEqDiff, Nat.reduceLT, Nat.reduceLeDiff, a2, a4, Nat.reduceMod]
  with_reducible refine xm_go_blk b_X0_bitOfByte_15 k_X0_bitOfByte_15 ?_
  refine by_aload_n rfl ?_
  refine by_iconst ci_1 ?_
  refine by_iconst ci_1 ?_
  refine by_inv2 cn_4 lk_0_92 (by rw [xe_cnt]; decide) is_32 np_32 cn_32 (by first | exact rfl | assumption) (Nat.le_of_ble_eq_true rfl) ?_
  refine sp_second hF hI (by omega) (by omega) (fun h1 G1 c1 n1 F1 I1 e1 v1 => ?_)
  replace E := cE_tr E e1
  with_reducible refine xm_go_blk b_X0_bitOfByte_21 k_X0_bitOfByte_21 ?_
  refine by_istore_n (by rw [ml_4]; decide) ?_
  refine by_iload_n rfl ?_
  refine by_iconst ci_2 ?_
  refine by_iand ?_
  refine by_if_eq 37 rfl ?_
  simp (disch := first | exact Nat.ne_of_beq_eq_false rfl | exact rfl | omega) only [nI_add, xa_sub, xa_mul, pk_div, nm_mod, xa_shr, xa_and7, xa_and1, xa_and255, xa_by_and, nI_m1, Nat.add_sub_cancel, Nat.reducePow, Nat.zero_add, Nat.add_zero, Nat.reduceAdd, Nat.reduceMul, Nat.reduceSub, xf_same, xq_ff, xq_fo, xf_1, xf_2, xs_1, xs_2, xs_same, xq_so, xj_1, xj_2, xj_same, xq_jo, xq_sa1, xq_same, xq_other, upd_s, oI_n, oI_s, xv_0, xv_1, xv_2, xv_3, xm_p1, xm_p2, xq_fp, xq_fn, List.filter_nil, Nat.reduceBEq, Bool.not_true, Bool.not_false, Bool.and_true, Bool.and_false, Bool.false_and, Bool.true_and, if_true, if_false, Bool.false_eq_true, reduceIte, xc_i, xc_j, xc_r, xc_n, List.nil_append, List.cons_append, Option.toList_some, Option.toList_none, nI_ltJ, nI_leJ, nI_eqJ, nI_ltz, nI_gez, nI_gtz, nI_lez, nI_eqz, m1_ltz, m1_gez, true_imp_iff, false_imp_iff, true_and, and_true, ne_eq, not_false_eq_true, not_true_eq_false, Nat.reduceEqDiff, Nat.reduceLT, Nat.reduceLeDiff, a2, a4, Nat.reduceMod]
  with_reducible refine xm_go_blk b_X0_bitOfByte_28 k_X0_bitOfByte_28 ?_
  refine by_aload_n rfl ?_
  refine by_iload_n rfl ?_
  refine by_iconst ci_2 ?_
  refine by_inv2 cn_4 lk_0_101 (by rw [xe_cnt]; decide) is_33 np_33 cn_33 (by first | exact rfl | assumption) (Nat.le_of_ble_eq_true rfl) ?_
  refine sp_gtake F1 I1 (by omega) v1 (by omega) (fun h2 G2 c2 n2 F2 I2 e2 v2 => ?_)
  replace E := cE_tr E e2
  with_reducible refine xm_go_blk b_X0_bitOfByte_34 k_X0_bitOfByte_34 ?_
  refine by_goto 43 rfl ?_
  with_reducible refine xm_go_blk b_X0_bitOfByte_43 k_X0_bitOfByte_43 ?_
  refine by_istore_n (by rw [ml_4]; decide) ?_
  refine by_iload_n rfl ?_
  refine by_iconst ci_4 ?_
  refine by_iand ?_
  refine by_if_eq 59 rfl ?_
  simp (disch := first | exact Nat.ne_of_beq_eq_false rfl | exact rfl | omega) only [nI_add, xa_sub, xa_mul, pk_div, nm_mod, xa_shr, xa_and7, xa_and1, xa_and255, xa_by_and, nI_m1, Nat.add_sub_cancel, Nat.reducePow, Nat.zero_add, Nat.add_zero, Nat.reduceAdd, Nat.reduceMul, Nat.reduceSub, xf_same, xq_ff, xq_fo, xf_1, xf_2, xs_1, xs_2, xs_same, xq_so, xj_1, xj_2, xj_same, xq_jo, xq_sa1, xq_same, xq_other, upd_s, oI_n, oI_s, xv_0, xv_1, xv_2, xv_3, xm_p1, xm_p2, xq_fp, xq_fn, List.filter_nil, Nat.reduceBEq, Bool.not_true, Bool.not_false, Bool.and_true, Bool.and_false, Bool.false_and, Bool.true_and, if_true, if_false, Bool.false_eq_true, reduceIte, xc_i, xc_j, xc_r, xc_n, List.nil_append, List.cons_append, Option.toList_some, Option.toList_none, nI_ltJ, nI_leJ, nI_eqJ, nI_ltz, nI_gez, nI_gtz, nI_lez, nI_eqz, m1_ltz, m1_gez, true_imp_iff, false_imp_iff, true_and, and_true, ne_eq, not_false_eq_true, not_true_eq_false, Nat.reduceEqDiff, Nat.reduceLT, Nat.reduceLeDiff, a2, a4, Nat.reduceMod]
  with_reducible refine xm_go_blk b_X0_bitOfByte_50 k_X0_bitOfByte_50 ?_
  refine by_aload_n rfl ?_
  refine by_iload_n rfl ?_
  refine by_iconst ci_4 ?_
  refine by_inv2 cn_4 lk_0_101 (by rw [xe_cnt]; decide) is_33 np_33 cn_33 (by first | exact rfl | assumption) (Nat.le_of_ble_eq_true rfl) ?_
  refine sp_gtake F2 I2 (by omega) v2 (by omega) (fun h3 G3 c3 n3 F3 I3 e3 v3 => ?_)
  replace E := cE_tr E e3
  with_reducible refine xm_go_blk b_X0_bitOfByte_56 k_X0_bitOfByte_56 ?_
  refine by_goto 65 rfl ?_
  with_reducible refine xm_go_blk b_X0_bitOfByte_65 k_X0_bitOfByte_65 ?_
  refine by_iret ry_4 (by first | rfl | assumption) ?_
  refine hp _ _ _ _ F3 I3 E (nG_cg v3 (by omega) (by omega) (fun x hx => ?_) (by decide))
  obtain ⟨a, b, c, d, e, f, g, i, rfl⟩ := li_8 (x := x) (by omega)
  rfl
theorem sp_bitOfByte_7 {c m : Nat} {h : xm_H} {G : Nat → gN} (hF : XF h) (hI : cI h G c m J) (hm : m + 3 ≤ 8000) (hp : cPo h G c (m + 3) J 8 1 (fun x => (x.drop (7 - 7)).take 1) (bq 7) post) : xm_T (XE sc) (d + 4) 4 [.ref 22, .int (nI 7)] h post := by
  have a1 : nI 7 &&& nI 1 = nI 1 := by decide
  have a2 : nI 7 &&& nI 2 = nI 2 := by decide
  have a4 : nI 7 &&& nI 4 = nI 4 := by decide
  refine xq_in rfl ?_
  simp only [xq_a0, xq_aI, xq_aJ, xq_aR, Nat.reduceAdd]
  have E : cE h G c h G c := cE_rf
  with_reducible refine xm_go_blk b_X0_bitOfByte_0 k_X0_bitOfByte_0 ?_
  refine by_iload_n rfl ?_
  refine by_iconst ci_1 ?_
  refine by_iand ?_
  refine by_if_eq 15 rfl ?_
  simp (disch := first | exact Nat.ne_of_beq_eq_false rfl | exact rfl | omega) only [nI_add, xa_sub, xa_mul, pk_div, nm_mod, xa_shr, xa_and7, xa_and1, xa_and255, xa_by_and, nI_m1, Nat.add_sub_cancel, Nat.reducePow, Nat.zero_add, Nat.add_zero, Nat.reduceAdd, Nat.reduceMul, Nat.reduceSub, xf_same, xq_ff, xq_fo, xf_1, xf_2, xs_1, xs_2, xs_same, xq_so, xj_1, xj_2, xj_same, xq_jo, xq_sa1, xq_same, xq_other, upd_s, oI_n, oI_s, xv_0, xv_1, xv_2, xv_3, xm_p1, xm_p2, xq_fp, xq_fn, List.filter_nil, Nat.reduceBEq, Bool.not_true, Bool.not_false, Bool.and_true, Bool.and_false, Bool.false_and, Bool.true_and, if_true, if_false, Bool.false_eq_true, reduceIte, xc_i, xc_j, xc_r, xc_n, List.nil_append, List.cons_append, Option.toList_some, Option.toList_none, nI_ltJ, nI_leJ, nI_eqJ, nI_ltz, nI_gez, nI_gtz, nI_lez, nI_eqz, m1_ltz, m1_gez, true_imp_iff, false_imp_iff, true_and, and_true, ne_eq, not_false_eq_true, not_true_eq_false, Nat.reduceEqDiff, Nat.reduceLT, Nat.reduceLeDiff, a2, a4, Nat.reduceMod]
  with_reducible refine xm_go_blk b_X0_bitOfByte_6 k_X0_bitOfByte_6 ?_
  refine by_aload_n rfl ?_
  refine by_iconst ci_1 ?_
  refine by_iconst ci_1 ?_
  refine by_inv2 cn_4 lk_0_95 (by rw [xe_cnt]; decide) is_15 np_15 cn_15 (by first | exact rfl | assumption) (Nat.le_of_ble_eq_true rfl) ?_
  refine sp_first hF hI (by omega) (by omega) (fun h1 G1 c1 n1 F1 I1 e1 v1 => ?_)
  replace E := cE_tr E e1
  with_reducible refine xm_go_blk b_X0_bitOfByte_12 k_X0_bitOfByte_12 ?_
  refine by_goto 21 rfl ?_
  with_reducible refine xm_go_blk b_X0_bitOfByte_21 k_X0_bitOfByte_21 ?_
  refine by_istore_n (by rw [ml_4]; decide) ?_
  refine by_iload_n rfl ?_
  refine by_iconst ci_2 ?_
  refine by_iand ?_
  refine by_if_eq 37 rfl ?_
  simp (disch := first | exact Nat.ne_of_beq_eq_false rfl | exact rfl | omega) only [nI_add, xa_sub, xa_mul, pk_div, nm_mod, xa_shr, xa_and7, xa_and1, xa_and255, xa_by_and, nI_m1, Nat.add_sub_cancel, Nat.reducePow, Nat.zero_add, Nat.add_zero, Nat.reduceAdd, Nat.reduceMul, Nat.reduceSub, xf_same, xq_ff, xq_fo, xf_1, xf_2, xs_1, xs_2, xs_same, xq_so, xj_1, xj_2, xj_same, xq_jo, xq_sa1, xq_same, xq_other, upd_s, oI_n, oI_s, xv_0, xv_1, xv_2, xv_3, xm_p1, xm_p2, xq_fp, xq_fn, List.filter_nil, Nat.reduceBEq, Bool.not_true, Bool.not_false, Bool.and_true, Bool.and_false, Bool.false_and, Bool.true_and, if_true, if_false, Bool.false_eq_true, reduceIte, xc_i, xc_j, xc_r, xc_n, List.nil_append, List.cons_append, Option.toList_some, Option.toList_none, nI_ltJ, nI_leJ, nI_eqJ, nI_ltz, nI_gez, nI_gtz, nI_lez, nI_eqz, m1_ltz, m1_gez, true_imp_iff, false_imp_iff, true_and, and_true, ne_eq, not_false_eq_true, not_true_eq_false, Nat.reduceEqDiff, Nat.reduceLT, Nat.reduceLeDiff, a2, a4, Nat.reduceMod]
  with_reducible refine xm_go_blk b_X0_bitOfByte_28 k_X0_bitOfByte_28 ?_
  refine by_aload_n rfl ?_
  refine by_iload_n rfl ?_
  refine by_iconst ci_2 ?_
  refine by_inv2 cn_4 lk_0_101 (by rw [xe_cnt]; decide) is_33 np_33 cn_33 (by first | exact rfl | assumption) (Nat.le_of_ble_eq_true rfl) ?_
  refine sp_gtake F1 I1 (by omega) v1 (by omega) (fun h2 G2 c2 n2 F2 I2 e2 v2 => ?_)
  replace E := cE_tr E e2
  with_reducible refine xm_go_blk b_X0_bitOfByte_34 k_X0_bitOfByte_34 ?_
  refine by_goto 43 rfl ?_
  with_reducible refine xm_go_blk b_X0_bitOfByte_43 k_X0_bitOfByte_43 ?_
  refine by_istore_n (by rw [ml_4]; decide) ?_
  refine by_iload_n rfl ?_
  refine by_iconst ci_4 ?_
  refine by_iand ?_
  refine by_if_eq 59 rfl ?_
  simp (disch := first | exact Nat.ne_of_beq_eq_false rfl | exact rfl | omega) only [nI_add, xa_sub, xa_mul, pk_div, nm_mod, xa_shr, xa_and7, xa_and1, xa_and255, xa_by_and, nI_m1, Nat.add_sub_cancel, Nat.reducePow, Nat.zero_add, Nat.add_zero, Nat.reduceAdd, Nat.reduceMul, Nat.reduceSub, xf_same, xq_ff, xq_fo, xf_1, xf_2, xs_1, xs_2, xs_same, xq_so, xj_1, xj_2, xj_same, xq_jo, xq_sa1, xq_same, xq_other, upd_s, oI_n, oI_s, xv_0, xv_1, xv_2, xv_3, xm_p1, xm_p2, xq_fp, xq_fn, List.filter_nil, Nat.reduceBEq, Bool.not_true, Bool.not_false, Bool.and_true, Bool.and_false, Bool.false_and, Bool.true_and, if_true, if_false, Bool.false_eq_true, reduceIte, xc_i, xc_j, xc_r, xc_n, List.nil_append, List.cons_append, Option.toList_some, Option.toList_none, nI_ltJ, nI_leJ, nI_eqJ, nI_ltz, nI_gez, nI_gtz, nI_lez, nI_eqz, m1_ltz, m1_gez, true_imp_iff, false_imp_iff, true_and, and_true, ne_eq, not_false_eq_true, not_true_eq_false, Nat.reduceEqDiff, Nat.reduceLT, Nat.reduceLeDiff, a2, a4, Nat.reduceMod]
  with_reducible refine xm_go_blk b_X0_bitOfByte_50 k_X0_bitOfByte_50 ?_
  refine by_aload_n rfl ?_
  refine by_iload_n rfl ?_
  refine by_iconst ci_4 ?_
  refine by_inv2 cn_4 lk_0_101 (by rw [xe_cnt]; decide) is_33 np_33 cn_33 (by first | exact rfl | assumption) (Nat.le_of_ble_eq_true rfl) ?_
  refine sp_gtake F2 I2 (by omega) v2 (by omega) (fun h3 G3 c3 n3 F3 I3 e3 v3 => ?_)
  replace E := cE_tr E e3
  with_reducible refine xm_go_blk b_X0_bitOfByte_56 k_X0_bitOfByte_56 ?_
  refine by_goto 65 rfl ?_
  with_reducible refine xm_go_blk b_X0_bitOfByte_65 k_X0_bitOfByte_65 ?_
  refine by_iret ry_4 (by first | rfl | assumption) ?_
  refine hp _ _ _ _ F3 I3 E (nG_cg v3 (by omega) (by omega) (fun x hx => ?_) (by decide))
  obtain ⟨a, b, c, d, e, f, g, i, rfl⟩ := li_8 (x := x) (by omega)
  rfl
theorem sp_bitOfByte {c m j : Nat} {h : xm_H} {G : Nat → gN} (hj : j < 8) (hF : XF h) (hI : cI h G c m J) (hm : m + 3 ≤ 8000) (hp : cPo h G c (m + 3) J 8 1 (fun x => (x.drop (7 - j)).take 1) (bq j) post) : xm_T (XE sc) (d + 4) 4 [.ref 22, .int (nI j)] h post := by
  rcases (by omega : j = 0 ∨ j = 1 ∨ j = 2 ∨ j = 3 ∨ j = 4 ∨ j = 5 ∨ j = 6 ∨ j = 7) with rfl | rfl | rfl | rfl | rfl | rfl | rfl | rfl
  · exact sp_bitOfByte_0 hF hI hm hp
  · exact sp_bitOfByte_1 hF hI hm hp
  · exact sp_bitOfByte_2 hF hI hm hp
  · exact sp_bitOfByte_3 hF hI hm hp
  · exact sp_bitOfByte_4 hF hI hm hp
  · exact sp_bitOfByte_5 hF hI hm hp
  · exact sp_bitOfByte_6 hF hI hm hp
  · exact sp_bitOfByte_7 hF hI hm hp
end CD
