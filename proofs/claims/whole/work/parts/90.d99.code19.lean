/-! ===== definitions of jets: those that reckon ===== -/
def qjT : List (List gQ) := [[(282, 8, 87), (586, 10, 165), (1194, 12, 315), (2410, 14, 609)], [(277, 8, 69), (581, 10, 131), (1189, 12, 249), (2405, 14, 479)], [(290, 8, 87), (602, 10, 165), (1226, 12, 315), (2474, 14, 609)], [(285, 8, 69), (597, 10, 131), (1221, 12, 249), (2469, 14, 479)], [(306, 8, 87), (634, 10, 165), (1290, 12, 315), (2602, 14, 609)], [(314, 8, 87), (650, 10, 165), (1322, 12, 315), (2666, 14, 609)], [(314, 8, 87), (650, 10, 165), (1322, 12, 315), (2666, 14, 609)], [(2440, 9, 331), (9720, 11, 687), (38744, 13, 1395), (154648, 15, 2807)], [(2390, 9, 298), (9622, 11, 622), (38550, 13, 1266), (154262, 15, 2550)], [(3479, 17, 348), (12995, 21, 757), (49819, 25, 1646), (194379, 29, 3575)], [(3434, 17, 330), (12906, 21, 723), (49642, 25, 1580), (194026, 29, 3445)], [(3487, 18, 356), (13003, 22, 773), (49827, 26, 1678), (194387, 30, 3639)], [(190, 7, 28), (386, 9, 53), (778, 11, 102), (1562, 13, 199)], [(292, 9, 97), (604, 11, 183), (1228, 13, 349), (2476, 15, 675)], [(304, 10, 116), (616, 12, 218), (1240, 14, 416), (2488, 16, 806)], [(321, 9, 114), (637, 11, 216), (1265, 13, 414), (2517, 15, 804)], [(297, 11, 115), (609, 13, 217), (1233, 15, 415), (2481, 17, 805)], [(297, 11, 115), (609, 13, 217), (1233, 15, 415), (2481, 17, 805)], [(1198, 13, 157), (2446, 15, 299), (4942, 17, 577), (9934, 19, 1127)], [(48, 7, 15), (92, 9, 25), (180, 11, 43), (356, 13, 77)], [(216, 7, 45), (436, 9, 86), (876, 11, 167), (1756, 13, 328)], [(40, 6, 13), (84, 8, 23), (172, 10, 41), (348, 12, 75)], [(40, 6, 13), (84, 8, 23), (172, 10, 41), (348, 12, 75)], [(70, 5, 2), (142, 6, 2), (286, 7, 2), (574, 8, 2)], [(101, 5, 17), (213, 6, 34), (437, 7, 67), (885, 8, 132)], [(101, 5, 17), (213, 6, 34), (437, 7, 67), (885, 8, 132)], [(141, 5, 19), (293, 6, 36), (597, 7, 69), (1205, 8, 134)], [(191, 5, 26), (399, 6, 51), (815, 7, 100), (1647, 8, 197)], [(151, 5, 24), (319, 6, 49), (655, 7, 98), (1327, 8, 195)], [(135, 5, 24), (287, 6, 49), (591, 7, 98), (1199, 8, 195)], [(23, 3, 0), (47, 4, 0), (95, 5, 0), (191, 6, 0)], [(23, 3, 0), (47, 4, 0), (95, 5, 0), (191, 6, 0)], [(320, 12, 194), (589, 13, 307), (1130, 14, 532), (2215, 15, 981)], [(324, 13, 194), (600, 14, 307), (1156, 15, 532), (2272, 16, 981)], [(96, 6, 109), (183, 8, 207), (350, 10, 409), (677, 12, 835)], [(100, 7, 109), (194, 9, 207), (376, 11, 409), (734, 13, 835)], [(2171, 13, 133), (4627, 15, 151), (9539, 17, 169), (19363, 19, 187)], [(998, 11, 144), (1352, 12, 171), (1750, 13, 214), (2236, 14, 289)], [(1, 0, 0), (1, 0, 0), (1, 0, 0), (1, 0, 0)], [(1, 0, 0), (1, 0, 0), (1, 0, 0), (1, 0, 0)], [(13, 3, 0), (25, 4, 0), (49, 5, 0), (97, 6, 0)], [(13, 2, 0), (25, 3, 0), (49, 4, 0), (97, 5, 0)]]
def ojT : List (List Nat) := [[6, 6, 6, 6], [0, 0, 0, 0], [6, 6, 6, 6], [0, 0, 0, 0], [8, 8, 8, 8], [8, 8, 8, 8], [8, 8, 8, 8], [7, 7, 7, 7], [0, 0, 0, 0], [13, 13, 13, 13], [6, 6, 6, 6], [12, 12, 12, 12], [3, 3, 3, 3], [3, 3, 3, 3], [7, 7, 7, 7], [8, 8, 8, 8], [3, 3, 3, 3], [3, 3, 3, 3], [15, 15, 15, 15], [2, 2, 2, 2], [12, 14, 16, 18], [0, 0, 0, 0], [0, 0, 0, 0], [0, 0, 0, 0], [0, 0, 0, 0], [0, 0, 0, 0], [0, 0, 0, 0], [0, 0, 0, 0], [0, 0, 0, 0], [0, 0, 0, 0], [0, 0, 0, 0], [0, 0, 0, 0], [177, 212, 256, 309], [177, 212, 256, 309], [107, 156, 214, 281], [107, 156, 214, 281], [0, 0, 0, 0], [0, 0, 0, 0], [1, 1, 1, 1], [1, 1, 1, 1], [3, 3, 3, 3], [3, 3, 3, 3]]
def qj (k l : Nat) : gQ := (qjT.getD k []).getD (l - 3) (0, 0, 0)
def oj (k l : Nat) : Nat := (ojT.getD k []).getD (l - 3) 0
def gJ (G : Nat → gN) (c p k l : Nat) : Prop := ∃ F, nG G c p (jWs (jt_S k) (2 ^ l)) (jWt (jt_T k) (2 ^ l)) F (qj k l) ∧ JSp k (2 ^ l) F
abbrev jPo (h : xm_H) (G : Nat → gN) (c m k l : Nat) (post : xm_Po) : Prop := ∀ h' G' c' n', XF h' → cI h' G' c' m [] → cE h G c h' G' c' → gJ G' c' n' k l → post (some (.int (nI n'))) h'
def jdM (k : Nat) : Nat := if k < 9 then 30 else if k < 19 then 8 else if k < 32 then 34 else if k < 36 then 2 else 24
def JdOK (sc : xm_Sc) (k l : Nat) : Prop := ∀ (d c m : Nat) (h : xm_H) (G : Nat → gN) (post : xm_Po), aOK sc 11 → 44 ≤ d → XF h → cI h G c m [] → m + oj k l ≤ 8000 → jPo h G c (m + oj k l) k l post → xm_T (XE sc) (d + 7) (jdM k) [.ref 22, .int (nI k), .int (nI l)] h post
theorem pw_ev {l : Nat} (h : 3 ≤ l) : 2 ^ l = 2 * 2 ^ (l - 1) := by
  obtain ⟨i, rfl⟩ : ∃ i, l = i + 1 := ⟨l - 1, by omega⟩
  rw [Nat.pow_succ, Nat.add_sub_cancel, Nat.mul_comm]
theorem bn_lt {x : List Bool} {w : Nat} (h : x.length = w) : bnum x < 2 ^ w := by have := bnum_lt x; rw [h] at this; exact this
theorem sb_split {x y c w : Nat} (hx : x < 2 ^ w) (hy : y < 2 ^ w) (hc : c < 2 ^ 1) : bbits (1 + w) (x + 2 ^ (w + 1) - y - c) = bbits 1 (if x < y + c then 1 else 0) ++ bbits w (x + 2 ^ w + 2 ^ w - y - c) := by
  rw [bbits_app 1 w, Nat.pow_succ]
  generalize 2 ^ w = W at *
  rw [show x + W * 2 - y - c = x + W + W - y - c by omega]
  congr 1
  by_cases e : x < y + c
  · rw [if_pos e, show (x + W + W - y - c) / W = 1 from Nat.div_eq_of_lt_le (by omega) (by omega)]
  · rw [if_neg e, show (x + W + W - y - c) / W = 2 from Nat.div_eq_of_lt_le (by omega) (by omega), bb_d1, bb_d1]
section CD
variable {sc : xm_Sc}
theorem jd_0 {l : Nat} (h3 : 3 ≤ l) (hl : l < 7) : JdOK sc 0 l := by
  intro d c m h G post hP hd hF hI hm hp
  have hr' : (11 : Nat) = 11 := rfl
  have hJ : ∀ j ∈ ([] : List Nat), 11 ≤ pH j := fun j hj => absurd hj (by simp)
  have ho : oj 0 l = 6 := (by decide : ∀ l, l < 7 → 3 ≤ l → oj 0 l = 6) l hl h3
  rw [ho] at hm hp
  have hsh := pw_sh l hl
  have hw64 := pw_l7 hl
  have hwe := pw_ev h3
  unfold jPo gJ at hp
  show xm_T (XE sc) (d + 7) 30 _ h post
  obtain ⟨w, hw⟩ : ∃ w, 2 ^ l = w := ⟨_, rfl⟩
  rw [hw] at hsh hw64 hp hwe
  refine xq_in rfl ?_
  simp only [xq_a0, xq_aI, xq_aJ, xq_aR, Nat.reduceAdd]
  have E : cE h G c h G c := cE_rf
  with_reducible refine xm_go_blk b_X0_reckoning_0 k_X0_reckoning_0 ?_
  refine by_iconst ci_1 ?_
  refine by_iload_n rfl ?_
  refine by_ishl ?_
  refine by_istore_n (by rw [ml_30]; decide) ?_
  refine by_iload_n rfl ?_
  simp (disch := first | exact Nat.ne_of_beq_eq_false rfl | exact rfl | omega) only [nI_add, xa_sub, xa_mul, pk_div, nm_mod, xa_shr, xa_and7, xa_and1, xa_and255, xa_by_and, nI_m1, Nat.add_sub_cancel, Nat.reducePow, Nat.zero_add, Nat.add_zero, Nat.reduceAdd, Nat.reduceMul, Nat.reduceSub, xf_same, xq_ff, xq_fo, xf_1, xf_2, xs_1, xs_2, xs_same, xq_so, xj_1, xj_2, xj_same, xq_jo, xq_sa1, xq_same, xq_other, upd_s, oI_n, oI_s, hsh]
  refine by_sw ?_
  simp (disch := first | exact Nat.ne_of_beq_eq_false rfl | exact rfl | omega) only [nI_add, xa_sub, xa_mul, pk_div, nm_mod, xa_shr, xa_and7, xa_and1, xa_and255, xa_by_and, nI_m1, Nat.add_sub_cancel, Nat.reducePow, Nat.zero_add, Nat.add_zero, Nat.reduceAdd, Nat.reduceMul, Nat.reduceSub, xf_same, xq_ff, xq_fo, xf_1, xf_2, xs_1, xs_2, xs_same, xq_so, xj_1, xj_2, xj_same, xq_jo, xq_sa1, xq_same, xq_other, upd_s, oI_n, oI_s, xv_0, xv_1, xv_2, xv_3, xm_p1, xm_p2, xq_fp, xq_fn, List.filter_nil, Nat.reduceBEq, Bool.not_true, Bool.not_false, Bool.and_true, Bool.and_false, Bool.false_and, Bool.true_and, if_true, if_false, Bool.false_eq_true, reduceIte, xc_i, xc_j, xc_r, xc_n, List.nil_append, List.cons_append, Option.toList_some, Option.toList_none, hsh]
  refine xq_sw 52 (by decide) (by decide) ?_
  with_reducible refine xm_go_blk b_X0_reckoning_52 k_X0_reckoning_52 ?_
  refine by_aload_n rfl ?_
  refine by_aload_n rfl ?_
  refine by_aload_n rfl ?_
  refine by_iconst ci_0 ?_
  refine by_iconst ci_2 ?_
  refine by_iload_n rfl ?_
  refine by_imul ?_
  simp (disch := first | exact Nat.ne_of_beq_eq_false rfl | exact rfl | omega) only [nI_add, xa_sub, xa_mul, pk_div, nm_mod, xa_shr, xa_and7, xa_and1, xa_and255, xa_by_and, nI_m1, Nat.add_sub_cancel, Nat.reducePow, Nat.zero_add, Nat.add_zero, Nat.reduceAdd, Nat.reduceMul, Nat.reduceSub, xf_same, xq_ff, xq_fo, xf_1, xf_2, xs_1, xs_2, xs_same, xq_so, xj_1, xj_2, xj_same, xq_jo, xq_sa1, xq_same, xq_other, upd_s, oI_n, oI_s, xv_0, xv_1, xv_2, xv_3, xm_p1, xm_p2, xq_fp, xq_fn, List.filter_nil, Nat.reduceBEq, Bool.not_true, Bool.not_false, Bool.and_true, Bool.and_false, Bool.false_and, Bool.true_and, if_true, if_false, Bool.false_eq_true, reduceIte, xc_i, xc_j, xc_r, xc_n, List.nil_append, List.cons_append, Option.toList_some, Option.toList_none, hsh]
  refine by_inv2 cn_30 lk_0_73 (by rw [xe_cnt]; decide) is_3 np_3 cn_3 (by first | exact rfl | assumption) (Nat.le_of_ble_eq_true rfl) ?_
  refine sp_gbit (by omega) hF hI (by omega) (by omega) (fun h1 G1 c1 n1 F1 I1 e1 v1 => ?_)
  replace E := cE_tr E e1
  with_reducible refine xm_go_blk b_X0_reckoning_62 k_X0_reckoning_62 ?_
  refine by_aload_n rfl ?_
  refine by_iconst ci_2 ?_
  refine by_iload_n rfl ?_
  refine by_imul ?_
  simp (disch := first | exact Nat.ne_of_beq_eq_false rfl | exact rfl | omega) only [nI_add, xa_sub, xa_mul, pk_div, nm_mod, xa_shr, xa_and7, xa_and1, xa_and255, xa_by_and, nI_m1, Nat.add_sub_cancel, Nat.reducePow, Nat.zero_add, Nat.add_zero, Nat.reduceAdd, Nat.reduceMul, Nat.reduceSub, xf_same, xq_ff, xq_fo, xf_1, xf_2, xs_1, xs_2, xs_same, xq_so, xj_1, xj_2, xj_same, xq_jo, xq_sa1, xq_same, xq_other, upd_s, oI_n, oI_s, xv_0, xv_1, xv_2, xv_3, xm_p1, xm_p2, xq_fp, xq_fn, List.filter_nil, Nat.reduceBEq, Bool.not_true, Bool.not_false, Bool.and_true, Bool.and_false, Bool.false_and, Bool.true_and, if_true, if_false, Bool.false_eq_true, reduceIte, xc_i, xc_j, xc_r, xc_n, List.nil_append, List.cons_append, Option.toList_some, Option.toList_none, hsh]
  refine by_inv1 cn_30 lk_0_76 (by rw [xe_cnt]; decide) is_18 np_18 cn_18 (by first | exact rfl | assumption) (Nat.le_of_ble_eq_true rfl) ?_
  refine sp_iden F1 I1 (by omega) (by omega) (fun h2 G2 c2 n2 F2 I2 e2 v2 => ?_)
  replace v1 := nG_up v1 e2
  replace E := cE_tr E e2
  with_reducible refine xm_go_blk b_X0_reckoning_69 k_X0_reckoning_69 ?_
  refine by_inv2 cn_30 lk_0_80 (by rw [xe_cnt]; decide) is_25 np_25 cn_25 (by first | exact rfl | assumption) (Nat.le_of_ble_eq_true rfl) ?_
  refine sp_gpair F2 I2 (by omega) v1 v2 (by omega) (by omega) (fun h3 G3 c3 n3 F3 I3 e3 v3 => ?_)
  replace E := cE_tr E e3
  with_reducible refine xm_go_blk b_X0_reckoning_72 k_X0_reckoning_72 ?_
  refine by_aload_n rfl ?_
  refine by_iconst ci_0 ?_
  refine by_iload_n rfl ?_
  refine by_inv2 cn_30 lk_0_83 (by rw [xe_cnt]; decide) is_26 np_26 cn_26 (by first | exact rfl | assumption) (Nat.le_of_ble_eq_true rfl) ?_
  refine sp_pc (a := 1) hP ⟨by omega, by omega, by omega⟩ rfl (by omega) hJ (by omega) F3 I3 (fun h4 G4 c4 n4 F4 I4 e4 p4 => ?_)
  obtain ⟨f4, v4, s4⟩ := p4
  simp only [pS, pT, pSp, Nat.reducePow, hw] at v4 s4
  replace v3 := nG_up v3 e4
  replace E := cE_tr E e4
  with_reducible refine xm_go_blk b_X0_reckoning_78 k_X0_reckoning_78 ?_
  refine by_inv2 cn_30 lk_0_86 (by rw [xe_cnt]; decide) is_7 np_7 cn_7 (by first | exact rfl | assumption) (Nat.le_of_ble_eq_true rfl) ?_
  refine sp_gcomp F4 I4 (by omega) v3 v4 (by omega) (fun h5 G5 c5 n5 F5 I5 e5 v5 => ?_)
  replace E := cE_tr E e5
  with_reducible refine xm_go_blk b_X0_reckoning_81 k_X0_reckoning_81 ?_
  refine by_iret ry_30 (by first | rfl | assumption) ?_
  refine hp _ _ _ _ F5 (cI_mono I5 (by omega) hm) E ⟨_, nG_cg v5 (by show _ = 2 * w; omega) (by show _ = 1 + w; omega) (fun _ _ => rfl) ?_, jsp_4 rfl ?_⟩
  · subst hw
    rcases (by omega : l = 3 ∨ l = 4 ∨ l = 5 ∨ l = 6) with rfl | rfl | rfl | rfl <;> decide
  · intro x y hx hy
    show f4 ([0 == 1] ++ (x ++ y)) = bbits 1 ((bnum x + bnum y + 0) / 2 ^ w) ++ bbits w (bnum x + bnum y + 0)
    rw [s4 [0 == 1] x y rfl hx hy, bbits_app 1 w, show bnum [0 == 1] = 0 from rfl, Nat.zero_add, Nat.add_zero]
theorem jd_1 {l : Nat} (h3 : 3 ≤ l) (hl : l < 7) : JdOK sc 1 l := by
  intro d c m h G post hP hd hF hI hm hp
  have hr' : (11 : Nat) = 11 := rfl
  have hJ : ∀ j ∈ ([] : List Nat), 11 ≤ pH j := fun j hj => absurd hj (by simp)
  have ho : oj 1 l = 0 := (by decide : ∀ l, l < 7 → 3 ≤ l → oj 1 l = 0) l hl h3
  rw [ho] at hm hp
  have hsh := pw_sh l hl
  have hw64 := pw_l7 hl
  have hwe := pw_ev h3
  unfold jPo gJ at hp
  show xm_T (XE sc) (d + 7) 30 _ h post
  obtain ⟨w, hw⟩ : ∃ w, 2 ^ l = w := ⟨_, rfl⟩
  rw [hw] at hsh hw64 hp hwe
  refine xq_in rfl ?_
  simp only [xq_a0, xq_aI, xq_aJ, xq_aR, Nat.reduceAdd]
  have E : cE h G c h G c := cE_rf
  with_reducible refine xm_go_blk b_X0_reckoning_0 k_X0_reckoning_0 ?_
  refine by_iconst ci_1 ?_
  refine by_iload_n rfl ?_
  refine by_ishl ?_
  refine by_istore_n (by rw [ml_30]; decide) ?_
  refine by_iload_n rfl ?_
  simp (disch := first | exact Nat.ne_of_beq_eq_false rfl | exact rfl | omega) only [nI_add, xa_sub, xa_mul, pk_div, nm_mod, xa_shr, xa_and7, xa_and1, xa_and255, xa_by_and, nI_m1, Nat.add_sub_cancel, Nat.reducePow, Nat.zero_add, Nat.add_zero, Nat.reduceAdd, Nat.reduceMul, Nat.reduceSub, xf_same, xq_ff, xq_fo, xf_1, xf_2, xs_1, xs_2, xs_same, xq_so, xj_1, xj_2, xj_same, xq_jo, xq_sa1, xq_same, xq_other, upd_s, oI_n, oI_s, hsh]
  refine by_sw ?_
  simp (disch := first | exact Nat.ne_of_beq_eq_false rfl | exact rfl | omega) only [nI_add, xa_sub, xa_mul, pk_div, nm_mod, xa_shr, xa_and7, xa_and1, xa_and255, xa_by_and, nI_m1, Nat.add_sub_cancel, Nat.reducePow, Nat.zero_add, Nat.add_zero, Nat.reduceAdd, Nat.reduceMul, Nat.reduceSub, xf_same, xq_ff, xq_fo, xf_1, xf_2, xs_1, xs_2, xs_same, xq_so, xj_1, xj_2, xj_same, xq_jo, xq_sa1, xq_same, xq_other, upd_s, oI_n, oI_s, xv_0, xv_1, xv_2, xv_3, xm_p1, xm_p2, xq_fp, xq_fn, List.filter_nil, Nat.reduceBEq, Bool.not_true, Bool.not_false, Bool.and_true, Bool.and_false, Bool.false_and, Bool.true_and, if_true, if_false, Bool.false_eq_true, reduceIte, xc_i, xc_j, xc_r, xc_n, List.nil_append, List.cons_append, Option.toList_some, Option.toList_none, hsh]
  refine xq_sw 82 (by decide) (by decide) ?_
  with_reducible refine xm_go_blk b_X0_reckoning_82 k_X0_reckoning_82 ?_
  refine by_aload_n rfl ?_
  refine by_iconst ci_0 ?_
  refine by_iload_n rfl ?_
  refine by_inv2 cn_30 lk_0_83 (by rw [xe_cnt]; decide) is_26 np_26 cn_26 (by first | exact rfl | assumption) (Nat.le_of_ble_eq_true rfl) ?_
  refine sp_pc (a := 1) hP ⟨by omega, by omega, by omega⟩ rfl (by omega) hJ (by omega) hF hI (fun h1 G1 c1 n1 F1 I1 e1 p1 => ?_)
  obtain ⟨f1, v1, s1⟩ := p1
  simp only [pS, pT, pSp, Nat.reducePow, hw] at v1 s1
  replace E := cE_tr E e1
  with_reducible refine xm_go_blk b_X0_reckoning_88 k_X0_reckoning_88 ?_
  refine by_iret ry_30 (by first | rfl | assumption) ?_
  refine hp _ _ _ _ F1 (cI_mono I1 (by omega) hm) E ⟨_, nG_cg v1 (by show _ = 1 + 2 * w; omega) (by show _ = 1 + w; omega) (fun _ _ => rfl) ?_, jsp_8 rfl ?_⟩
  · subst hw
    rcases (by omega : l = 3 ∨ l = 4 ∨ l = 5 ∨ l = 6) with rfl | rfl | rfl | rfl <;> decide
  · intro c x y hc hx hy
    show f1 (c ++ (x ++ y)) = bbits 1 ((bnum x + bnum y + bnum c) / 2 ^ w) ++ bbits w (bnum x + bnum y + bnum c)
    rw [s1 c x y hc hx hy, bbits_app 1 w, show bnum c + bnum x + bnum y = bnum x + bnum y + bnum c by omega]
theorem jd_2 {l : Nat} (h3 : 3 ≤ l) (hl : l < 7) : JdOK sc 2 l := by
  intro d c m h G post hP hd hF hI hm hp
  have hr' : (11 : Nat) = 11 := rfl
  have hJ : ∀ j ∈ ([] : List Nat), 11 ≤ pH j := fun j hj => absurd hj (by simp)
  have ho : oj 2 l = 6 := (by decide : ∀ l, l < 7 → 3 ≤ l → oj 2 l = 6) l hl h3
  rw [ho] at hm hp
  have hsh := pw_sh l hl
  have hw64 := pw_l7 hl
  have hwe := pw_ev h3
  unfold jPo gJ at hp
  show xm_T (XE sc) (d + 7) 30 _ h post
  obtain ⟨w, hw⟩ : ∃ w, 2 ^ l = w := ⟨_, rfl⟩
  rw [hw] at hsh hw64 hp hwe
  refine xq_in rfl ?_
  simp only [xq_a0, xq_aI, xq_aJ, xq_aR, Nat.reduceAdd]
  have E : cE h G c h G c := cE_rf
  with_reducible refine xm_go_blk b_X0_reckoning_0 k_X0_reckoning_0 ?_
  refine by_iconst ci_1 ?_
  refine by_iload_n rfl ?_
  refine by_ishl ?_
  refine by_istore_n (by rw [ml_30]; decide) ?_
  refine by_iload_n rfl ?_
  simp (disch := first | exact Nat.ne_of_beq_eq_false rfl | exact rfl | omega) only [nI_add, xa_sub, xa_mul, pk_div, nm_mod, xa_shr, xa_and7, xa_and1, xa_and255, xa_by_and, nI_m1, Nat.add_sub_cancel, Nat.reducePow, Nat.zero_add, Nat.add_zero, Nat.reduceAdd, Nat.reduceMul, Nat.reduceSub, xf_same, xq_ff, xq_fo, xf_1, xf_2, xs_1, xs_2, xs_same, xq_so, xj_1, xj_2, xj_same, xq_jo, xq_sa1, xq_same, xq_other, upd_s, oI_n, oI_s, hsh]
  refine by_sw ?_
  simp (disch := first | exact Nat.ne_of_beq_eq_false rfl | exact rfl | omega) only [nI_add, xa_sub, xa_mul, pk_div, nm_mod, xa_shr, xa_and7, xa_and1, xa_and255, xa_by_and, nI_m1, Nat.add_sub_cancel, Nat.reducePow, Nat.zero_add, Nat.add_zero, Nat.reduceAdd, Nat.reduceMul, Nat.reduceSub, xf_same, xq_ff, xq_fo, xf_1, xf_2, xs_1, xs_2, xs_same, xq_so, xj_1, xj_2, xj_same, xq_jo, xq_sa1, xq_same, xq_other, upd_s, oI_n, oI_s, xv_0, xv_1, xv_2, xv_3, xm_p1, xm_p2, xq_fp, xq_fn, List.filter_nil, Nat.reduceBEq, Bool.not_true, Bool.not_false, Bool.and_true, Bool.and_false, Bool.false_and, Bool.true_and, if_true, if_false, Bool.false_eq_true, reduceIte, xc_i, xc_j, xc_r, xc_n, List.nil_append, List.cons_append, Option.toList_some, Option.toList_none, hsh]
  refine xq_sw 89 (by decide) (by decide) ?_
  with_reducible refine xm_go_blk b_X0_reckoning_89 k_X0_reckoning_89 ?_
  refine by_aload_n rfl ?_
  refine by_aload_n rfl ?_
  refine by_aload_n rfl ?_
  refine by_iconst ci_0 ?_
  refine by_iconst ci_2 ?_
  refine by_iload_n rfl ?_
  refine by_imul ?_
  simp (disch := first | exact Nat.ne_of_beq_eq_false rfl | exact rfl | omega) only [nI_add, xa_sub, xa_mul, pk_div, nm_mod, xa_shr, xa_and7, xa_and1, xa_and255, xa_by_and, nI_m1, Nat.add_sub_cancel, Nat.reducePow, Nat.zero_add, Nat.add_zero, Nat.reduceAdd, Nat.reduceMul, Nat.reduceSub, xf_same, xq_ff, xq_fo, xf_1, xf_2, xs_1, xs_2, xs_same, xq_so, xj_1, xj_2, xj_same, xq_jo, xq_sa1, xq_same, xq_other, upd_s, oI_n, oI_s, xv_0, xv_1, xv_2, xv_3, xm_p1, xm_p2, xq_fp, xq_fn, List.filter_nil, Nat.reduceBEq, Bool.not_true, Bool.not_false, Bool.and_true, Bool.and_false, Bool.false_and, Bool.true_and, if_true, if_false, Bool.false_eq_true, reduceIte, xc_i, xc_j, xc_r, xc_n, List.nil_append, List.cons_append, Option.toList_some, Option.toList_none, hsh]
  refine by_inv2 cn_30 lk_0_73 (by rw [xe_cnt]; decide) is_3 np_3 cn_3 (by first | exact rfl | assumption) (Nat.le_of_ble_eq_true rfl) ?_
  refine sp_gbit (by omega) hF hI (by omega) (by omega) (fun h1 G1 c1 n1 F1 I1 e1 v1 => ?_)
  replace E := cE_tr E e1
  with_reducible refine xm_go_blk b_X0_reckoning_99 k_X0_reckoning_99 ?_
  refine by_aload_n rfl ?_
  refine by_iconst ci_2 ?_
  refine by_iload_n rfl ?_
  refine by_imul ?_
  simp (disch := first | exact Nat.ne_of_beq_eq_false rfl | exact rfl | omega) only [nI_add, xa_sub, xa_mul, pk_div, nm_mod, xa_shr, xa_and7, xa_and1, xa_and255, xa_by_and, nI_m1, Nat.add_sub_cancel, Nat.reducePow, Nat.zero_add, Nat.add_zero, Nat.reduceAdd, Nat.reduceMul, Nat.reduceSub, xf_same, xq_ff, xq_fo, xf_1, xf_2, xs_1, xs_2, xs_same, xq_so, xj_1, xj_2, xj_same, xq_jo, xq_sa1, xq_same, xq_other, upd_s, oI_n, oI_s, xv_0, xv_1, xv_2, xv_3, xm_p1, xm_p2, xq_fp, xq_fn, List.filter_nil, Nat.reduceBEq, Bool.not_true, Bool.not_false, Bool.and_true, Bool.and_false, Bool.false_and, Bool.true_and, if_true, if_false, Bool.false_eq_true, reduceIte, xc_i, xc_j, xc_r, xc_n, List.nil_append, List.cons_append, Option.toList_some, Option.toList_none, hsh]
  refine by_inv1 cn_30 lk_0_76 (by rw [xe_cnt]; decide) is_18 np_18 cn_18 (by first | exact rfl | assumption) (Nat.le_of_ble_eq_true rfl) ?_
  refine sp_iden F1 I1 (by omega) (by omega) (fun h2 G2 c2 n2 F2 I2 e2 v2 => ?_)
  replace v1 := nG_up v1 e2
  replace E := cE_tr E e2
  with_reducible refine xm_go_blk b_X0_reckoning_106 k_X0_reckoning_106 ?_
  refine by_inv2 cn_30 lk_0_80 (by rw [xe_cnt]; decide) is_25 np_25 cn_25 (by first | exact rfl | assumption) (Nat.le_of_ble_eq_true rfl) ?_
  refine sp_gpair F2 I2 (by omega) v1 v2 (by omega) (by omega) (fun h3 G3 c3 n3 F3 I3 e3 v3 => ?_)
  replace E := cE_tr E e3
  with_reducible refine xm_go_blk b_X0_reckoning_109 k_X0_reckoning_109 ?_
  refine by_aload_n rfl ?_
  refine by_iconst ci_1 ?_
  refine by_iload_n rfl ?_
  refine by_inv2 cn_30 lk_0_83 (by rw [xe_cnt]; decide) is_26 np_26 cn_26 (by first | exact rfl | assumption) (Nat.le_of_ble_eq_true rfl) ?_
  refine sp_pc (a := 1) hP ⟨by omega, by omega, by omega⟩ rfl (by omega) hJ (by omega) F3 I3 (fun h4 G4 c4 n4 F4 I4 e4 p4 => ?_)
  obtain ⟨f4, v4, s4⟩ := p4
  simp only [pS, pT, pSp, Nat.reducePow, hw] at v4 s4
  replace v3 := nG_up v3 e4
  replace E := cE_tr E e4
  with_reducible refine xm_go_blk b_X0_reckoning_115 k_X0_reckoning_115 ?_
  refine by_inv2 cn_30 lk_0_86 (by rw [xe_cnt]; decide) is_7 np_7 cn_7 (by first | exact rfl | assumption) (Nat.le_of_ble_eq_true rfl) ?_
  refine sp_gcomp F4 I4 (by omega) v3 v4 (by omega) (fun h5 G5 c5 n5 F5 I5 e5 v5 => ?_)
  replace E := cE_tr E e5
  with_reducible refine xm_go_blk b_X0_reckoning_118 k_X0_reckoning_118 ?_
  refine by_iret ry_30 (by first | rfl | assumption) ?_
  refine hp _ _ _ _ F5 (cI_mono I5 (by omega) hm) E ⟨_, nG_cg v5 (by show _ = 2 * w; omega) (by show _ = 1 + w; omega) (fun _ _ => rfl) ?_, jsp_4 rfl ?_⟩
  · subst hw
    rcases (by omega : l = 3 ∨ l = 4 ∨ l = 5 ∨ l = 6) with rfl | rfl | rfl | rfl <;> decide
  · intro x y hx hy
    show f4 ([0 == 1] ++ (x ++ y)) = bbits 1 (if bnum x < bnum y + 0 then 1 else 0) ++ bbits w (bnum x + 2 ^ w + 2 ^ w - bnum y - 0)
    rw [s4 [0 == 1] x y rfl hx hy, show bnum [0 == 1] = 0 from rfl, sb_split (bn_lt hx) (bn_lt hy) (by decide)]
theorem jd_3 {l : Nat} (h3 : 3 ≤ l) (hl : l < 7) : JdOK sc 3 l := by
  intro d c m h G post hP hd hF hI hm hp
  have hr' : (11 : Nat) = 11 := rfl
  have hJ : ∀ j ∈ ([] : List Nat), 11 ≤ pH j := fun j hj => absurd hj (by simp)
  have ho : oj 3 l = 0 := (by decide : ∀ l, l < 7 → 3 ≤ l → oj 3 l = 0) l hl h3
  rw [ho] at hm hp
  have hsh := pw_sh l hl
  have hw64 := pw_l7 hl
  have hwe := pw_ev h3
  unfold jPo gJ at hp
  show xm_T (XE sc) (d + 7) 30 _ h post
  obtain ⟨w, hw⟩ : ∃ w, 2 ^ l = w := ⟨_, rfl⟩
  rw [hw] at hsh hw64 hp hwe
  refine xq_in rfl ?_
  simp only [xq_a0, xq_aI, xq_aJ, xq_aR, Nat.reduceAdd]
  have E : cE h G c h G c := cE_rf
  with_reducible refine xm_go_blk b_X0_reckoning_0 k_X0_reckoning_0 ?_
  refine by_iconst ci_1 ?_
  refine by_iload_n rfl ?_
  refine by_ishl ?_
  refine by_istore_n (by rw [ml_30]; decide) ?_
  refine by_iload_n rfl ?_
  simp (disch := first | exact Nat.ne_of_beq_eq_false rfl | exact rfl | omega) only [nI_add, xa_sub, xa_mul, pk_div, nm_mod, xa_shr, xa_and7, xa_and1, xa_and255, xa_by_and, nI_m1, Nat.add_sub_cancel, Nat.reducePow, Nat.zero_add, Nat.add_zero, Nat.reduceAdd, Nat.reduceMul, Nat.reduceSub, xf_same, xq_ff, xq_fo, xf_1, xf_2, xs_1, xs_2, xs_same, xq_so, xj_1, xj_2, xj_same, xq_jo, xq_sa1, xq_same, xq_other, upd_s, oI_n, oI_s, hsh]
  refine by_sw ?_
  simp (disch := first | exact Nat.ne_of_beq_eq_false rfl | exact rfl | omega) only [nI_add, xa_sub, xa_mul, pk_div, nm_mod, xa_shr, xa_and7, xa_and1, xa_and255, xa_by_and, nI_m1, Nat.add_sub_cancel, Nat.reducePow, Nat.zero_add, Nat.add_zero, Nat.reduceAdd, Nat.reduceMul, Nat.reduceSub, xf_same, xq_ff, xq_fo, xf_1, xf_2, xs_1, xs_2, xs_same, xq_so, xj_1, xj_2, xj_same, xq_jo, xq_sa1, xq_same, xq_other, upd_s, oI_n, oI_s, xv_0, xv_1, xv_2, xv_3, xm_p1, xm_p2, xq_fp, xq_fn, List.filter_nil, Nat.reduceBEq, Bool.not_true, Bool.not_false, Bool.and_true, Bool.and_false, Bool.false_and, Bool.true_and, if_true, if_false, Bool.false_eq_true, reduceIte, xc_i, xc_j, xc_r, xc_n, List.nil_append, List.cons_append, Option.toList_some, Option.toList_none, hsh]
  refine xq_sw 119 (by decide) (by decide) ?_
  with_reducible refine xm_go_blk b_X0_reckoning_119 k_X0_reckoning_119 ?_
  refine by_aload_n rfl ?_
  refine by_iconst ci_1 ?_
  refine by_iload_n rfl ?_
  refine by_inv2 cn_30 lk_0_83 (by rw [xe_cnt]; decide) is_26 np_26 cn_26 (by first | exact rfl | assumption) (Nat.le_of_ble_eq_true rfl) ?_
  refine sp_pc (a := 1) hP ⟨by omega, by omega, by omega⟩ rfl (by omega) hJ (by omega) hF hI (fun h1 G1 c1 n1 F1 I1 e1 p1 => ?_)
  obtain ⟨f1, v1, s1⟩ := p1
  simp only [pS, pT, pSp, Nat.reducePow, hw] at v1 s1
  replace E := cE_tr E e1
  with_reducible refine xm_go_blk b_X0_reckoning_125 k_X0_reckoning_125 ?_
  refine by_iret ry_30 (by first | rfl | assumption) ?_
  refine hp _ _ _ _ F1 (cI_mono I1 (by omega) hm) E ⟨_, nG_cg v1 (by show _ = 1 + 2 * w; omega) (by show _ = 1 + w; omega) (fun _ _ => rfl) ?_, jsp_8 rfl ?_⟩
  · subst hw
    rcases (by omega : l = 3 ∨ l = 4 ∨ l = 5 ∨ l = 6) with rfl | rfl | rfl | rfl <;> decide
  · intro c x y hc hx hy
    show f1 (c ++ (x ++ y)) = bbits 1 (if bnum x < bnum y + bnum c then 1 else 0) ++ bbits w (bnum x + 2 ^ w + 2 ^ w - bnum y - bnum c)
    rw [s1 c x y hc hx hy, sb_split (bn_lt hx) (bn_lt hy) (bn_lt hc)]
theorem jd_4 {l : Nat} (h3 : 3 ≤ l) (hl : l < 7) : JdOK sc 4 l := by
  intro d c m h G post hP hd hF hI hm hp
  have hr' : (11 : Nat) = 11 := rfl
  have hJ : ∀ j ∈ ([] : List Nat), 11 ≤ pH j := fun j hj => absurd hj (by simp)
  have ho : oj 4 l = 8 := (by decide : ∀ l, l < 7 → 3 ≤ l → oj 4 l = 8) l hl h3
  rw [ho] at hm hp
  have hsh := pw_sh l hl
  have hw64 := pw_l7 hl
  have hwe := pw_ev h3
  unfold jPo gJ at hp
  show xm_T (XE sc) (d + 7) 30 _ h post
  obtain ⟨w, hw⟩ : ∃ w, 2 ^ l = w := ⟨_, rfl⟩
  rw [hw] at hsh hw64 hp hwe
  refine xq_in rfl ?_
  simp only [xq_a0, xq_aI, xq_aJ, xq_aR, Nat.reduceAdd]
  have E : cE h G c h G c := cE_rf
  with_reducible refine xm_go_blk b_X0_reckoning_0 k_X0_reckoning_0 ?_
  refine by_iconst ci_1 ?_
  refine by_iload_n rfl ?_
  refine by_ishl ?_
  refine by_istore_n (by rw [ml_30]; decide) ?_
  refine by_iload_n rfl ?_
  simp (disch := first | exact Nat.ne_of_beq_eq_false rfl | exact rfl | omega) only [nI_add, xa_sub, xa_mul, pk_div, nm_mod, xa_shr, xa_and7, xa_and1, xa_and255, xa_by_and, nI_m1, Nat.add_sub_cancel, Nat.reducePow, Nat.zero_add, Nat.add_zero, Nat.reduceAdd, Nat.reduceMul, Nat.reduceSub, xf_same, xq_ff, xq_fo, xf_1, xf_2, xs_1, xs_2, xs_same, xq_so, xj_1, xj_2, xj_same, xq_jo, xq_sa1, xq_same, xq_other, upd_s, oI_n, oI_s, hsh]
  refine by_sw ?_
  simp (disch := first | exact Nat.ne_of_beq_eq_false rfl | exact rfl | omega) only [nI_add, xa_sub, xa_mul, pk_div, nm_mod, xa_shr, xa_and7, xa_and1, xa_and255, xa_by_and, nI_m1, Nat.add_sub_cancel, Nat.reducePow, Nat.zero_add, Nat.add_zero, Nat.reduceAdd, Nat.reduceMul, Nat.reduceSub, xf_same, xq_ff, xq_fo, xf_1, xf_2, xs_1, xs_2, xs_same, xq_so, xj_1, xj_2, xj_same, xq_jo, xq_sa1, xq_same, xq_other, upd_s, oI_n, oI_s, xv_0, xv_1, xv_2, xv_3, xm_p1, xm_p2, xq_fp, xq_fn, List.filter_nil, Nat.reduceBEq, Bool.not_true, Bool.not_false, Bool.and_true, Bool.and_false, Bool.false_and, Bool.true_and, if_true, if_false, Bool.false_eq_true, reduceIte, xc_i, xc_j, xc_r, xc_n, List.nil_append, List.cons_append, Option.toList_some, Option.toList_none, hsh]
  refine xq_sw 126 (by decide) (by decide) ?_
  with_reducible refine xm_go_blk b_X0_reckoning_126 k_X0_reckoning_126 ?_
  refine by_aload_n rfl ?_
  refine by_aload_n rfl ?_
  refine by_aload_n rfl ?_
  refine by_iconst ci_1 ?_
  refine by_iload_n rfl ?_
  refine by_inv2 cn_30 lk_0_73 (by rw [xe_cnt]; decide) is_3 np_3 cn_3 (by first | exact rfl | assumption) (Nat.le_of_ble_eq_true rfl) ?_
  refine sp_gbit (by omega) hF hI (by omega) (by omega) (fun h1 G1 c1 n1 F1 I1 e1 v1 => ?_)
  replace E := cE_tr E e1
  with_reducible refine xm_go_blk b_X0_reckoning_134 k_X0_reckoning_134 ?_
  refine by_aload_n rfl ?_
  refine by_aload_n rfl ?_
  refine by_iload_n rfl ?_
  refine by_inv1 cn_30 lk_0_76 (by rw [xe_cnt]; decide) is_18 np_18 cn_18 (by first | exact rfl | assumption) (Nat.le_of_ble_eq_true rfl) ?_
  refine sp_iden F1 I1 (by omega) (by omega) (fun h2 G2 c2 n2 F2 I2 e2 v2 => ?_)
  replace v1 := nG_up v1 e2
  replace E := cE_tr E e2
  with_reducible refine xm_go_blk b_X0_reckoning_140 k_X0_reckoning_140 ?_
  refine by_aload_n rfl ?_
  refine by_iload_n rfl ?_
  refine by_iload_n rfl ?_
  refine by_inv2 cn_30 lk_0_89 (by rw [xe_cnt]; decide) is_38 np_38 cn_38 (by first | exact rfl | assumption) (Nat.le_of_ble_eq_true rfl) ?_
  refine sp_zeros hP (by omega) (by omega) hJ (by omega) F2 I2 (by omega) (by omega) (fun h3 G3 c3 n3 F3 I3 e3 v3 => ?_)
  replace v1 := nG_up v1 e3
  replace v2 := nG_up v2 e3
  replace E := cE_tr E e3
  with_reducible refine xm_go_blk b_X0_reckoning_146 k_X0_reckoning_146 ?_
  refine by_inv2 cn_30 lk_0_80 (by rw [xe_cnt]; decide) is_25 np_25 cn_25 (by first | exact rfl | assumption) (Nat.le_of_ble_eq_true rfl) ?_
  refine sp_gpair F3 I3 (by omega) v2 v3 (by omega) (by omega) (fun h4 G4 c4 n4 F4 I4 e4 v4 => ?_)
  replace v1 := nG_up v1 e4
  replace E := cE_tr E e4
  with_reducible refine xm_go_blk b_X0_reckoning_149 k_X0_reckoning_149 ?_
  refine by_inv2 cn_30 lk_0_80 (by rw [xe_cnt]; decide) is_25 np_25 cn_25 (by first | exact rfl | assumption) (Nat.le_of_ble_eq_true rfl) ?_
  refine sp_gpair F4 I4 (by omega) v1 v4 (by omega) (by omega) (fun h5 G5 c5 n5 F5 I5 e5 v5 => ?_)
  replace E := cE_tr E e5
  with_reducible refine xm_go_blk b_X0_reckoning_152 k_X0_reckoning_152 ?_
  refine by_aload_n rfl ?_
  refine by_iconst ci_0 ?_
  refine by_iload_n rfl ?_
  refine by_inv2 cn_30 lk_0_83 (by rw [xe_cnt]; decide) is_26 np_26 cn_26 (by first | exact rfl | assumption) (Nat.le_of_ble_eq_true rfl) ?_
  refine sp_pc (a := 1) hP ⟨by omega, by omega, by omega⟩ rfl (by omega) hJ (by omega) F5 I5 (fun h6 G6 c6 n6 F6 I6 e6 p6 => ?_)
  obtain ⟨f6, v6, s6⟩ := p6
  simp only [pS, pT, pSp, Nat.reducePow, hw] at v6 s6
  replace v5 := nG_up v5 e6
  replace E := cE_tr E e6
  with_reducible refine xm_go_blk b_X0_reckoning_158 k_X0_reckoning_158 ?_
  refine by_inv2 cn_30 lk_0_86 (by rw [xe_cnt]; decide) is_7 np_7 cn_7 (by first | exact rfl | assumption) (Nat.le_of_ble_eq_true rfl) ?_
  refine sp_gcomp F6 I6 (by omega) v5 v6 (by omega) (fun h7 G7 c7 n7 F7 I7 e7 v7 => ?_)
  replace E := cE_tr E e7
  with_reducible refine xm_go_blk b_X0_reckoning_161 k_X0_reckoning_161 ?_
  refine by_iret ry_30 (by first | rfl | assumption) ?_
  refine hp _ _ _ _ F7 (cI_mono I7 (by omega) hm) E ⟨_, nG_cg v7 (by show _ = w; omega) (by show _ = 1 + w; omega) (fun _ _ => rfl) ?_, jsp_3 rfl ?_⟩
  · subst hw
    rcases (by omega : l = 3 ∨ l = 4 ∨ l = 5 ∨ l = 6) with rfl | rfl | rfl | rfl <;> decide
  · intro x hx
    show f6 ([1 == 1] ++ (x ++ List.replicate (2 ^ l) false)) = bbits 1 ((bnum x + 1) / 2 ^ w) ++ bbits w (bnum x + 1)
    rw [s6 [1 == 1] x _ rfl hx (by rw [hw]; simp), bbits_app 1 w, bn_0, show bnum [1 == 1] = 1 from rfl, Nat.add_zero, Nat.add_comm 1]
theorem jd_5 {l : Nat} (h3 : 3 ≤ l) (hl : l < 7) : JdOK sc 5 l := by
  intro d c m h G post hP hd hF hI hm hp
  have hr' : (11 : Nat) = 11 := rfl
  have hJ : ∀ j ∈ ([] : List Nat), 11 ≤ pH j := fun j hj => absurd hj (by simp)
  have ho : oj 5 l = 8 := (by decide : ∀ l, l < 7 → 3 ≤ l → oj 5 l = 8) l hl h3
  rw [ho] at hm hp
  have hsh := pw_sh l hl
  have hw64 := pw_l7 hl
  have hwe := pw_ev h3
  unfold jPo gJ at hp
  show xm_T (XE sc) (d + 7) 30 _ h post
  obtain ⟨w, hw⟩ : ∃ w, 2 ^ l = w := ⟨_, rfl⟩
  rw [hw] at hsh hw64 hp hwe
  refine xq_in rfl ?_
  simp only [xq_a0, xq_aI, xq_aJ, xq_aR, Nat.reduceAdd]
  have E : cE h G c h G c := cE_rf
  with_reducible refine xm_go_blk b_X0_reckoning_0 k_X0_reckoning_0 ?_
  refine by_iconst ci_1 ?_
  refine by_iload_n rfl ?_
  refine by_ishl ?_
  refine by_istore_n (by rw [ml_30]; decide) ?_
  refine by_iload_n rfl ?_
  simp (disch := first | exact Nat.ne_of_beq_eq_false rfl | exact rfl | omega) only [nI_add, xa_sub, xa_mul, pk_div, nm_mod, xa_shr, xa_and7, xa_and1, xa_and255, xa_by_and, nI_m1, Nat.add_sub_cancel, Nat.reducePow, Nat.zero_add, Nat.add_zero, Nat.reduceAdd, Nat.reduceMul, Nat.reduceSub, xf_same, xq_ff, xq_fo, xf_1, xf_2, xs_1, xs_2, xs_same, xq_so, xj_1, xj_2, xj_same, xq_jo, xq_sa1, xq_same, xq_other, upd_s, oI_n, oI_s, hsh]
  refine by_sw ?_
  simp (disch := first | exact Nat.ne_of_beq_eq_false rfl | exact rfl | omega) only [nI_add, xa_sub, xa_mul, pk_div, nm_mod, xa_shr, xa_and7, xa_and1, xa_and255, xa_by_and, nI_m1, Nat.add_sub_cancel, Nat.reducePow, Nat.zero_add, Nat.add_zero, Nat.reduceAdd, Nat.reduceMul, Nat.reduceSub, xf_same, xq_ff, xq_fo, xf_1, xf_2, xs_1, xs_2, xs_same, xq_so, xj_1, xj_2, xj_same, xq_jo, xq_sa1, xq_same, xq_other, upd_s, oI_n, oI_s, xv_0, xv_1, xv_2, xv_3, xm_p1, xm_p2, xq_fp, xq_fn, List.filter_nil, Nat.reduceBEq, Bool.not_true, Bool.not_false, Bool.and_true, Bool.and_false, Bool.false_and, Bool.true_and, if_true, if_false, Bool.false_eq_true, reduceIte, xc_i, xc_j, xc_r, xc_n, List.nil_append, List.cons_append, Option.toList_some, Option.toList_none, hsh]
  refine xq_sw 162 (by decide) (by decide) ?_
  with_reducible refine xm_go_blk b_X0_reckoning_162 k_X0_reckoning_162 ?_
  refine by_aload_n rfl ?_
  refine by_aload_n rfl ?_
  refine by_aload_n rfl ?_
  refine by_iconst ci_1 ?_
  refine by_iload_n rfl ?_
  refine by_inv2 cn_30 lk_0_73 (by rw [xe_cnt]; decide) is_3 np_3 cn_3 (by first | exact rfl | assumption) (Nat.le_of_ble_eq_true rfl) ?_
  refine sp_gbit (by omega) hF hI (by omega) (by omega) (fun h1 G1 c1 n1 F1 I1 e1 v1 => ?_)
  replace E := cE_tr E e1
  with_reducible refine xm_go_blk b_X0_reckoning_170 k_X0_reckoning_170 ?_
  refine by_aload_n rfl ?_
  refine by_aload_n rfl ?_
  refine by_iload_n rfl ?_
  refine by_inv1 cn_30 lk_0_76 (by rw [xe_cnt]; decide) is_18 np_18 cn_18 (by first | exact rfl | assumption) (Nat.le_of_ble_eq_true rfl) ?_
  refine sp_iden F1 I1 (by omega) (by omega) (fun h2 G2 c2 n2 F2 I2 e2 v2 => ?_)
  replace v1 := nG_up v1 e2
  replace E := cE_tr E e2
  with_reducible refine xm_go_blk b_X0_reckoning_176 k_X0_reckoning_176 ?_
  refine by_aload_n rfl ?_
  refine by_iload_n rfl ?_
  refine by_iload_n rfl ?_
  refine by_inv2 cn_30 lk_0_89 (by rw [xe_cnt]; decide) is_38 np_38 cn_38 (by first | exact rfl | assumption) (Nat.le_of_ble_eq_true rfl) ?_
  refine sp_zeros hP (by omega) (by omega) hJ (by omega) F2 I2 (by omega) (by omega) (fun h3 G3 c3 n3 F3 I3 e3 v3 => ?_)
  replace v1 := nG_up v1 e3
  replace v2 := nG_up v2 e3
  replace E := cE_tr E e3
  with_reducible refine xm_go_blk b_X0_reckoning_182 k_X0_reckoning_182 ?_
  refine by_inv2 cn_30 lk_0_80 (by rw [xe_cnt]; decide) is_25 np_25 cn_25 (by first | exact rfl | assumption) (Nat.le_of_ble_eq_true rfl) ?_
  refine sp_gpair F3 I3 (by omega) v2 v3 (by omega) (by omega) (fun h4 G4 c4 n4 F4 I4 e4 v4 => ?_)
  replace v1 := nG_up v1 e4
  replace E := cE_tr E e4
  with_reducible refine xm_go_blk b_X0_reckoning_185 k_X0_reckoning_185 ?_
  refine by_inv2 cn_30 lk_0_80 (by rw [xe_cnt]; decide) is_25 np_25 cn_25 (by first | exact rfl | assumption) (Nat.le_of_ble_eq_true rfl) ?_
  refine sp_gpair F4 I4 (by omega) v1 v4 (by omega) (by omega) (fun h5 G5 c5 n5 F5 I5 e5 v5 => ?_)
  replace E := cE_tr E e5
  with_reducible refine xm_go_blk b_X0_reckoning_188 k_X0_reckoning_188 ?_
  refine by_aload_n rfl ?_
  refine by_iconst ci_1 ?_
  refine by_iload_n rfl ?_
  refine by_inv2 cn_30 lk_0_83 (by rw [xe_cnt]; decide) is_26 np_26 cn_26 (by first | exact rfl | assumption) (Nat.le_of_ble_eq_true rfl) ?_
  refine sp_pc (a := 1) hP ⟨by omega, by omega, by omega⟩ rfl (by omega) hJ (by omega) F5 I5 (fun h6 G6 c6 n6 F6 I6 e6 p6 => ?_)
  obtain ⟨f6, v6, s6⟩ := p6
  simp only [pS, pT, pSp, Nat.reducePow, hw] at v6 s6
  replace v5 := nG_up v5 e6
  replace E := cE_tr E e6
  with_reducible refine xm_go_blk b_X0_reckoning_194 k_X0_reckoning_194 ?_
  refine by_inv2 cn_30 lk_0_86 (by rw [xe_cnt]; decide) is_7 np_7 cn_7 (by first | exact rfl | assumption) (Nat.le_of_ble_eq_true rfl) ?_
  refine sp_gcomp F6 I6 (by omega) v5 v6 (by omega) (fun h7 G7 c7 n7 F7 I7 e7 v7 => ?_)
  replace E := cE_tr E e7
  with_reducible refine xm_go_blk b_X0_reckoning_197 k_X0_reckoning_197 ?_
  refine by_iret ry_30 (by first | rfl | assumption) ?_
  refine hp _ _ _ _ F7 (cI_mono I7 (by omega) hm) E ⟨_, nG_cg v7 (by show _ = w; omega) (by show _ = 1 + w; omega) (fun _ _ => rfl) ?_, jsp_3 rfl ?_⟩
  · subst hw
    rcases (by omega : l = 3 ∨ l = 4 ∨ l = 5 ∨ l = 6) with rfl | rfl | rfl | rfl <;> decide
  · intro x hx
    show f6 ([1 == 1] ++ (x ++ List.replicate (2 ^ l) false)) = bbits 1 (if bnum x < 1 then 1 else 0) ++ bbits w (bnum x + 2 ^ w - 1)
    rw [s6 [1 == 1] x _ rfl hx (by rw [hw]; simp), bn_0, show bnum [1 == 1] = 1 from rfl, sb_split (bn_lt hx) (Nat.two_pow_pos w) (by decide)]
    congr 1
    have hp2 := Nat.two_pow_pos w
    exact bb_cg (by rw [show bnum x + 2 ^ w + 2 ^ w - 0 - 1 = bnum x + 2 ^ w - 1 + 2 ^ w by omega, Nat.add_mod_right])
theorem jd_6 {l : Nat} (h3 : 3 ≤ l) (hl : l < 7) : JdOK sc 6 l := by
  intro d c m h G post hP hd hF hI hm hp
  have hr' : (11 : Nat) = 11 := rfl
  have hJ : ∀ j ∈ ([] : List Nat), 11 ≤ pH j := fun j hj => absurd hj (by simp)
  have ho : oj 6 l = 8 := (by decide : ∀ l, l < 7 → 3 ≤ l → oj 6 l = 8) l hl h3
  rw [ho] at hm hp
  have hsh := pw_sh l hl
  have hw64 := pw_l7 hl
  have hwe := pw_ev h3
  unfold jPo gJ at hp
  show xm_T (XE sc) (d + 7) 30 _ h post
  obtain ⟨w, hw⟩ : ∃ w, 2 ^ l = w := ⟨_, rfl⟩
  rw [hw] at hsh hw64 hp hwe
  refine xq_in rfl ?_
  simp only [xq_a0, xq_aI, xq_aJ, xq_aR, Nat.reduceAdd]
  have E : cE h G c h G c := cE_rf
  with_reducible refine xm_go_blk b_X0_reckoning_0 k_X0_reckoning_0 ?_
  refine by_iconst ci_1 ?_
  refine by_iload_n rfl ?_
  refine by_ishl ?_
  refine by_istore_n (by rw [ml_30]; decide) ?_
  refine by_iload_n rfl ?_
  simp (disch := first | exact Nat.ne_of_beq_eq_false rfl | exact rfl | omega) only [nI_add, xa_sub, xa_mul, pk_div, nm_mod, xa_shr, xa_and7, xa_and1, xa_and255, xa_by_and, nI_m1, Nat.add_sub_cancel, Nat.reducePow, Nat.zero_add, Nat.add_zero, Nat.reduceAdd, Nat.reduceMul, Nat.reduceSub, xf_same, xq_ff, xq_fo, xf_1, xf_2, xs_1, xs_2, xs_same, xq_so, xj_1, xj_2, xj_same, xq_jo, xq_sa1, xq_same, xq_other, upd_s, oI_n, oI_s, hsh]
  refine by_sw ?_
  simp (disch := first | exact Nat.ne_of_beq_eq_false rfl | exact rfl | omega) only [nI_add, xa_sub, xa_mul, pk_div, nm_mod, xa_shr, xa_and7, xa_and1, xa_and255, xa_by_and, nI_m1, Nat.add_sub_cancel, Nat.reducePow, Nat.zero_add, Nat.add_zero, Nat.reduceAdd, Nat.reduceMul, Nat.reduceSub, xf_same, xq_ff, xq_fo, xf_1, xf_2, xs_1, xs_2, xs_same, xq_so, xj_1, xj_2, xj_same, xq_jo, xq_sa1, xq_same, xq_other, upd_s, oI_n, oI_s, xv_0, xv_1, xv_2, xv_3, xm_p1, xm_p2, xq_fp, xq_fn, List.filter_nil, Nat.reduceBEq, Bool.not_true, Bool.not_false, Bool.and_true, Bool.and_false, Bool.false_and, Bool.true_and, if_true, if_false, Bool.false_eq_true, reduceIte, xc_i, xc_j, xc_r, xc_n, List.nil_append, List.cons_append, Option.toList_some, Option.toList_none, hsh]
  refine xq_sw 198 (by decide) (by decide) ?_
  with_reducible refine xm_go_blk b_X0_reckoning_198 k_X0_reckoning_198 ?_
  refine by_aload_n rfl ?_
  refine by_aload_n rfl ?_
  refine by_aload_n rfl ?_
  refine by_iconst ci_0 ?_
  refine by_iload_n rfl ?_
  refine by_inv2 cn_30 lk_0_73 (by rw [xe_cnt]; decide) is_3 np_3 cn_3 (by first | exact rfl | assumption) (Nat.le_of_ble_eq_true rfl) ?_
  refine sp_gbit (by omega) hF hI (by omega) (by omega) (fun h1 G1 c1 n1 F1 I1 e1 v1 => ?_)
  replace E := cE_tr E e1
  with_reducible refine xm_go_blk b_X0_reckoning_206 k_X0_reckoning_206 ?_
  refine by_aload_n rfl ?_
  refine by_aload_n rfl ?_
  refine by_iload_n rfl ?_
  refine by_iload_n rfl ?_
  refine by_inv2 cn_30 lk_0_89 (by rw [xe_cnt]; decide) is_38 np_38 cn_38 (by first | exact rfl | assumption) (Nat.le_of_ble_eq_true rfl) ?_
  refine sp_zeros hP (by omega) (by omega) hJ (by omega) F1 I1 (by omega) (by omega) (fun h2 G2 c2 n2 F2 I2 e2 v2 => ?_)
  replace v1 := nG_up v1 e2
  replace E := cE_tr E e2
  with_reducible refine xm_go_blk b_X0_reckoning_213 k_X0_reckoning_213 ?_
  refine by_aload_n rfl ?_
  refine by_iload_n rfl ?_
  refine by_inv1 cn_30 lk_0_76 (by rw [xe_cnt]; decide) is_18 np_18 cn_18 (by first | exact rfl | assumption) (Nat.le_of_ble_eq_true rfl) ?_
  refine sp_iden F2 I2 (by omega) (by omega) (fun h3 G3 c3 n3 F3 I3 e3 v3 => ?_)
  replace v1 := nG_up v1 e3
  replace v2 := nG_up v2 e3
  replace E := cE_tr E e3
  with_reducible refine xm_go_blk b_X0_reckoning_218 k_X0_reckoning_218 ?_
  refine by_inv2 cn_30 lk_0_80 (by rw [xe_cnt]; decide) is_25 np_25 cn_25 (by first | exact rfl | assumption) (Nat.le_of_ble_eq_true rfl) ?_
  refine sp_gpair F3 I3 (by omega) v2 v3 (by omega) (by omega) (fun h4 G4 c4 n4 F4 I4 e4 v4 => ?_)
  replace v1 := nG_up v1 e4
  replace E := cE_tr E e4
  with_reducible refine xm_go_blk b_X0_reckoning_221 k_X0_reckoning_221 ?_
  refine by_inv2 cn_30 lk_0_80 (by rw [xe_cnt]; decide) is_25 np_25 cn_25 (by first | exact rfl | assumption) (Nat.le_of_ble_eq_true rfl) ?_
  refine sp_gpair F4 I4 (by omega) v1 v4 (by omega) (by omega) (fun h5 G5 c5 n5 F5 I5 e5 v5 => ?_)
  replace E := cE_tr E e5
  with_reducible refine xm_go_blk b_X0_reckoning_224 k_X0_reckoning_224 ?_
  refine by_aload_n rfl ?_
  refine by_iconst ci_1 ?_
  refine by_iload_n rfl ?_
  refine by_inv2 cn_30 lk_0_83 (by rw [xe_cnt]; decide) is_26 np_26 cn_26 (by first | exact rfl | assumption) (Nat.le_of_ble_eq_true rfl) ?_
  refine sp_pc (a := 1) hP ⟨by omega, by omega, by omega⟩ rfl (by omega) hJ (by omega) F5 I5 (fun h6 G6 c6 n6 F6 I6 e6 p6 => ?_)
  obtain ⟨f6, v6, s6⟩ := p6
  simp only [pS, pT, pSp, Nat.reducePow, hw] at v6 s6
  replace v5 := nG_up v5 e6
  replace E := cE_tr E e6
  with_reducible refine xm_go_blk b_X0_reckoning_230 k_X0_reckoning_230 ?_
  refine by_inv2 cn_30 lk_0_86 (by rw [xe_cnt]; decide) is_7 np_7 cn_7 (by first | exact rfl | assumption) (Nat.le_of_ble_eq_true rfl) ?_
  refine sp_gcomp F6 I6 (by omega) v5 v6 (by omega) (fun h7 G7 c7 n7 F7 I7 e7 v7 => ?_)
  replace E := cE_tr E e7
  with_reducible refine xm_go_blk b_X0_reckoning_233 k_X0_reckoning_233 ?_
  refine by_iret ry_30 (by first | rfl | assumption) ?_
  refine hp _ _ _ _ F7 (cI_mono I7 (by omega) hm) E ⟨_, nG_cg v7 (by show _ = w; omega) (by show _ = 1 + w; omega) (fun _ _ => rfl) ?_, jsp_3 rfl ?_⟩
  · subst hw
    rcases (by omega : l = 3 ∨ l = 4 ∨ l = 5 ∨ l = 6) with rfl | rfl | rfl | rfl <;> decide
  · intro x hx
    show f6 ([0 == 1] ++ (List.replicate (2 ^ l) false ++ x)) = bbits 1 (if 0 < bnum x then 1 else 0) ++ bbits w (2 ^ w - bnum x)
    have hlt := bn_lt hx
    rw [s6 [0 == 1] _ x rfl (by rw [hw]; simp) hx, bn_0, show bnum [0 == 1] = 0 from rfl, sb_split (Nat.two_pow_pos w) hlt (by decide), Nat.add_zero]
    congr 1
    exact bb_cg (by rw [show 0 + 2 ^ w + 2 ^ w - bnum x - 0 = 2 ^ w - bnum x + 2 ^ w by omega, Nat.add_mod_right])
theorem jd_7 {l : Nat} (h3 : 3 ≤ l) (hl : l < 7) : JdOK sc 7 l := by
  intro d c m h G post hP hd hF hI hm hp
  have hr' : (11 : Nat) = 11 := rfl
  have hJ : ∀ j ∈ ([] : List Nat), 11 ≤ pH j := fun j hj => absurd hj (by simp)
  have ho : oj 7 l = 7 := (by decide : ∀ l, l < 7 → 3 ≤ l → oj 7 l = 7) l hl h3
  rw [ho] at hm hp
  have hsh := pw_sh l hl
  have hw64 := pw_l7 hl
  have hwe := pw_ev h3
  unfold jPo gJ at hp
  show xm_T (XE sc) (d + 7) 30 _ h post
  obtain ⟨w, hw⟩ : ∃ w, 2 ^ l = w := ⟨_, rfl⟩
  rw [hw] at hsh hw64 hp hwe
  refine xq_in rfl ?_
  simp only [xq_a0, xq_aI, xq_aJ, xq_aR, Nat.reduceAdd]
  have E : cE h G c h G c := cE_rf
  with_reducible refine xm_go_blk b_X0_reckoning_0 k_X0_reckoning_0 ?_
  refine by_iconst ci_1 ?_
  refine by_iload_n rfl ?_
  refine by_ishl ?_
  refine by_istore_n (by rw [ml_30]; decide) ?_
  refine by_iload_n rfl ?_
  simp (disch := first | exact Nat.ne_of_beq_eq_false rfl | exact rfl | omega) only [nI_add, xa_sub, xa_mul, pk_div, nm_mod, xa_shr, xa_and7, xa_and1, xa_and255, xa_by_and, nI_m1, Nat.add_sub_cancel, Nat.reducePow, Nat.zero_add, Nat.add_zero, Nat.reduceAdd, Nat.reduceMul, Nat.reduceSub, xf_same, xq_ff, xq_fo, xf_1, xf_2, xs_1, xs_2, xs_same, xq_so, xj_1, xj_2, xj_same, xq_jo, xq_sa1, xq_same, xq_other, upd_s, oI_n, oI_s, hsh]
  refine by_sw ?_
  simp (disch := first | exact Nat.ne_of_beq_eq_false rfl | exact rfl | omega) only [nI_add, xa_sub, xa_mul, pk_div, nm_mod, xa_shr, xa_and7, xa_and1, xa_and255, xa_by_and, nI_m1, Nat.add_sub_cancel, Nat.reducePow, Nat.zero_add, Nat.add_zero, Nat.reduceAdd, Nat.reduceMul, Nat.reduceSub, xf_same, xq_ff, xq_fo, xf_1, xf_2, xs_1, xs_2, xs_same, xq_so, xj_1, xj_2, xj_same, xq_jo, xq_sa1, xq_same, xq_other, upd_s, oI_n, oI_s, xv_0, xv_1, xv_2, xv_3, xm_p1, xm_p2, xq_fp, xq_fn, List.filter_nil, Nat.reduceBEq, Bool.not_true, Bool.not_false, Bool.and_true, Bool.and_false, Bool.false_and, Bool.true_and, if_true, if_false, Bool.false_eq_true, reduceIte, xc_i, xc_j, xc_r, xc_n, List.nil_append, List.cons_append, Option.toList_some, Option.toList_none, hsh]
  refine xq_sw 234 (by decide) (by decide) ?_
  with_reducible refine xm_go_blk b_X0_reckoning_234 k_X0_reckoning_234 ?_
  refine by_aload_n rfl ?_
  refine by_aload_n rfl ?_
  refine by_aload_n rfl ?_
  refine by_iconst ci_2 ?_
  refine by_iload_n rfl ?_
  refine by_imul ?_
  simp (disch := first | exact Nat.ne_of_beq_eq_false rfl | exact rfl | omega) only [nI_add, xa_sub, xa_mul, pk_div, nm_mod, xa_shr, xa_and7, xa_and1, xa_and255, xa_by_and, nI_m1, Nat.add_sub_cancel, Nat.reducePow, Nat.zero_add, Nat.add_zero, Nat.reduceAdd, Nat.reduceMul, Nat.reduceSub, xf_same, xq_ff, xq_fo, xf_1, xf_2, xs_1, xs_2, xs_same, xq_so, xj_1, xj_2, xj_same, xq_jo, xq_sa1, xq_same, xq_other, upd_s, oI_n, oI_s, xv_0, xv_1, xv_2, xv_3, xm_p1, xm_p2, xq_fp, xq_fn, List.filter_nil, Nat.reduceBEq, Bool.not_true, Bool.not_false, Bool.and_true, Bool.and_false, Bool.false_and, Bool.true_and, if_true, if_false, Bool.false_eq_true, reduceIte, xc_i, xc_j, xc_r, xc_n, List.nil_append, List.cons_append, Option.toList_some, Option.toList_none, hsh]
  refine by_inv1 cn_30 lk_0_76 (by rw [xe_cnt]; decide) is_18 np_18 cn_18 (by first | exact rfl | assumption) (Nat.le_of_ble_eq_true rfl) ?_
  refine sp_iden hF hI (by omega) (by omega) (fun h1 G1 c1 n1 F1 I1 e1 v1 => ?_)
  replace E := cE_tr E e1
  with_reducible refine xm_go_blk b_X0_reckoning_243 k_X0_reckoning_243 ?_
  refine by_aload_n rfl ?_
  refine by_aload_n rfl ?_
  refine by_iload_n rfl ?_
  refine by_iconst ci_2 ?_
  refine by_iload_n rfl ?_
  refine by_imul ?_
  simp (disch := first | exact Nat.ne_of_beq_eq_false rfl | exact rfl | omega) only [nI_add, xa_sub, xa_mul, pk_div, nm_mod, xa_shr, xa_and7, xa_and1, xa_and255, xa_by_and, nI_m1, Nat.add_sub_cancel, Nat.reducePow, Nat.zero_add, Nat.add_zero, Nat.reduceAdd, Nat.reduceMul, Nat.reduceSub, xf_same, xq_ff, xq_fo, xf_1, xf_2, xs_1, xs_2, xs_same, xq_so, xj_1, xj_2, xj_same, xq_jo, xq_sa1, xq_same, xq_other, upd_s, oI_n, oI_s, xv_0, xv_1, xv_2, xv_3, xm_p1, xm_p2, xq_fp, xq_fn, List.filter_nil, Nat.reduceBEq, Bool.not_true, Bool.not_false, Bool.and_true, Bool.and_false, Bool.false_and, Bool.true_and, if_true, if_false, Bool.false_eq_true, reduceIte, xc_i, xc_j, xc_r, xc_n, List.nil_append, List.cons_append, Option.toList_some, Option.toList_none, hsh]
  refine by_inv2 cn_30 lk_0_89 (by rw [xe_cnt]; decide) is_38 np_38 cn_38 (by first | exact rfl | assumption) (Nat.le_of_ble_eq_true rfl) ?_
  refine sp_zeros hP (by omega) (by omega) hJ (by omega) F1 I1 (by omega) (by omega) (fun h2 G2 c2 n2 F2 I2 e2 v2 => ?_)
  replace v1 := nG_up v1 e2
  replace E := cE_tr E e2
  with_reducible refine xm_go_blk b_X0_reckoning_252 k_X0_reckoning_252 ?_
  refine by_aload_n rfl ?_
  refine by_iload_n rfl ?_
  refine by_iconst ci_2 ?_
  refine by_iload_n rfl ?_
  refine by_imul ?_
  simp (disch := first | exact Nat.ne_of_beq_eq_false rfl | exact rfl | omega) only [nI_add, xa_sub, xa_mul, pk_div, nm_mod, xa_shr, xa_and7, xa_and1, xa_and255, xa_by_and, nI_m1, Nat.add_sub_cancel, Nat.reducePow, Nat.zero_add, Nat.add_zero, Nat.reduceAdd, Nat.reduceMul, Nat.reduceSub, xf_same, xq_ff, xq_fo, xf_1, xf_2, xs_1, xs_2, xs_same, xq_so, xj_1, xj_2, xj_same, xq_jo, xq_sa1, xq_same, xq_other, upd_s, oI_n, oI_s, xv_0, xv_1, xv_2, xv_3, xm_p1, xm_p2, xq_fp, xq_fn, List.filter_nil, Nat.reduceBEq, Bool.not_true, Bool.not_false, Bool.and_true, Bool.and_false, Bool.false_and, Bool.true_and, if_true, if_false, Bool.false_eq_true, reduceIte, xc_i, xc_j, xc_r, xc_n, List.nil_append, List.cons_append, Option.toList_some, Option.toList_none, hsh]
  refine by_inv2 cn_30 lk_0_89 (by rw [xe_cnt]; decide) is_38 np_38 cn_38 (by first | exact rfl | assumption) (Nat.le_of_ble_eq_true rfl) ?_
  refine sp_zeros hP (by omega) (by omega) hJ (by omega) F2 I2 (by omega) (by omega) (fun h3 G3 c3 n3 F3 I3 e3 v3 => ?_)
  replace v1 := nG_up v1 e3
  replace v2 := nG_up v2 e3
  replace E := cE_tr E e3
  with_reducible refine xm_go_blk b_X0_reckoning_260 k_X0_reckoning_260 ?_
  refine by_inv2 cn_30 lk_0_80 (by rw [xe_cnt]; decide) is_25 np_25 cn_25 (by first | exact rfl | assumption) (Nat.le_of_ble_eq_true rfl) ?_
  refine sp_gpair F3 I3 (by omega) v2 v3 (by omega) (by omega) (fun h4 G4 c4 n4 F4 I4 e4 v4 => ?_)
  replace v1 := nG_up v1 e4
  replace E := cE_tr E e4
  with_reducible refine xm_go_blk b_X0_reckoning_263 k_X0_reckoning_263 ?_
  refine by_inv2 cn_30 lk_0_80 (by rw [xe_cnt]; decide) is_25 np_25 cn_25 (by first | exact rfl | assumption) (Nat.le_of_ble_eq_true rfl) ?_
  refine sp_gpair F4 I4 (by omega) v1 v4 (by omega) (by omega) (fun h5 G5 c5 n5 F5 I5 e5 v5 => ?_)
  replace E := cE_tr E e5
  with_reducible refine xm_go_blk b_X0_reckoning_266 k_X0_reckoning_266 ?_
  refine by_aload_n rfl ?_
  refine by_iconst ci_3 ?_
  refine by_iload_n rfl ?_
  refine by_inv2 cn_30 lk_0_83 (by rw [xe_cnt]; decide) is_26 np_26 cn_26 (by first | exact rfl | assumption) (Nat.le_of_ble_eq_true rfl) ?_
  refine sp_pc (a := 2) hP ⟨by omega, by omega, by omega⟩ rfl (by omega) hJ (by omega) F5 I5 (fun h6 G6 c6 n6 F6 I6 e6 p6 => ?_)
  obtain ⟨f6, v6, s6⟩ := p6
  simp only [pS, pT, pSp, Nat.reducePow, hw] at v6 s6
  replace v5 := nG_up v5 e6
  replace E := cE_tr E e6
  with_reducible refine xm_go_blk b_X0_reckoning_272 k_X0_reckoning_272 ?_
  refine by_inv2 cn_30 lk_0_86 (by rw [xe_cnt]; decide) is_7 np_7 cn_7 (by first | exact rfl | assumption) (Nat.le_of_ble_eq_true rfl) ?_
  refine sp_gcomp F6 I6 (by omega) v5 v6 (by omega) (fun h7 G7 c7 n7 F7 I7 e7 v7 => ?_)
  replace E := cE_tr E e7
  with_reducible refine xm_go_blk b_X0_reckoning_275 k_X0_reckoning_275 ?_
  refine by_iret ry_30 (by first | rfl | assumption) ?_
  refine hp _ _ _ _ F7 (cI_mono I7 (by omega) hm) E ⟨_, nG_cg v7 (by show _ = 2 * w; omega) (by show _ = w + w; omega) (fun _ _ => rfl) ?_, jsp_4 rfl ?_⟩
  · subst hw
    rcases (by omega : l = 3 ∨ l = 4 ∨ l = 5 ∨ l = 6) with rfl | rfl | rfl | rfl <;> decide
  · intro x y hx hy
    show f6 ((x ++ y) ++ (List.replicate (2 ^ l) false ++ List.replicate (2 ^ l) false)) = bbits w ((bnum x * bnum y + 0 + 0) / 2 ^ w) ++ bbits w (bnum x * bnum y + 0 + 0)
    rw [List.append_assoc, s6 x y _ _ hx hy (by rw [hw]; simp) (by rw [hw]; simp), bn_0, Nat.two_mul, bbits_app]
theorem jd_8 {l : Nat} (h3 : 3 ≤ l) (hl : l < 7) : JdOK sc 8 l := by
  intro d c m h G post hP hd hF hI hm hp
  have hr' : (11 : Nat) = 11 := rfl
  have hJ : ∀ j ∈ ([] : List Nat), 11 ≤ pH j := fun j hj => absurd hj (by simp)
  have ho : oj 8 l = 0 := (by decide : ∀ l, l < 7 → 3 ≤ l → oj 8 l = 0) l hl h3
  rw [ho] at hm hp
  have hsh := pw_sh l hl
  have hw64 := pw_l7 hl
  have hwe := pw_ev h3
  unfold jPo gJ at hp
  show xm_T (XE sc) (d + 7) 30 _ h post
  obtain ⟨w, hw⟩ : ∃ w, 2 ^ l = w := ⟨_, rfl⟩
  rw [hw] at hsh hw64 hp hwe
  refine xq_in rfl ?_
  simp only [xq_a0, xq_aI, xq_aJ, xq_aR, Nat.reduceAdd]
  have E : cE h G c h G c := cE_rf
  with_reducible refine xm_go_blk b_X0_reckoning_0 k_X0_reckoning_0 ?_
  refine by_iconst ci_1 ?_
  refine by_iload_n rfl ?_
  refine by_ishl ?_
  refine by_istore_n (by rw [ml_30]; decide) ?_
  refine by_iload_n rfl ?_
  simp (disch := first | exact Nat.ne_of_beq_eq_false rfl | exact rfl | omega) only [nI_add, xa_sub, xa_mul, pk_div, nm_mod, xa_shr, xa_and7, xa_and1, xa_and255, xa_by_and, nI_m1, Nat.add_sub_cancel, Nat.reducePow, Nat.zero_add, Nat.add_zero, Nat.reduceAdd, Nat.reduceMul, Nat.reduceSub, xf_same, xq_ff, xq_fo, xf_1, xf_2, xs_1, xs_2, xs_same, xq_so, xj_1, xj_2, xj_same, xq_jo, xq_sa1, xq_same, xq_other, upd_s, oI_n, oI_s, hsh]
  refine by_sw ?_
  simp (disch := first | exact Nat.ne_of_beq_eq_false rfl | exact rfl | omega) only [nI_add, xa_sub, xa_mul, pk_div, nm_mod, xa_shr, xa_and7, xa_and1, xa_and255, xa_by_and, nI_m1, Nat.add_sub_cancel, Nat.reducePow, Nat.zero_add, Nat.add_zero, Nat.reduceAdd, Nat.reduceMul, Nat.reduceSub, xf_same, xq_ff, xq_fo, xf_1, xf_2, xs_1, xs_2, xs_same, xq_so, xj_1, xj_2, xj_same, xq_jo, xq_sa1, xq_same, xq_other, upd_s, oI_n, oI_s, xv_0, xv_1, xv_2, xv_3, xm_p1, xm_p2, xq_fp, xq_fn, List.filter_nil, Nat.reduceBEq, Bool.not_true, Bool.not_false, Bool.and_true, Bool.and_false, Bool.false_and, Bool.true_and, if_true, if_false, Bool.false_eq_true, reduceIte, xc_i, xc_j, xc_r, xc_n, List.nil_append, List.cons_append, Option.toList_some, Option.toList_none, hsh]
  refine xq_sw 276 (by decide) (by decide) ?_
  with_reducible refine xm_go_blk b_X0_reckoning_276 k_X0_reckoning_276 ?_
  refine by_aload_n rfl ?_
  refine by_iconst ci_3 ?_
  refine by_iload_n rfl ?_
  refine by_inv2 cn_30 lk_0_83 (by rw [xe_cnt]; decide) is_26 np_26 cn_26 (by first | exact rfl | assumption) (Nat.le_of_ble_eq_true rfl) ?_
  refine sp_pc (a := 2) hP ⟨by omega, by omega, by omega⟩ rfl (by omega) hJ (by omega) hF hI (fun h1 G1 c1 n1 F1 I1 e1 p1 => ?_)
  obtain ⟨f1, v1, s1⟩ := p1
  simp only [pS, pT, pSp, Nat.reducePow, hw] at v1 s1
  replace E := cE_tr E e1
  with_reducible refine xm_go_blk b_X0_reckoning_282 k_X0_reckoning_282 ?_
  refine by_iret ry_30 (by first | rfl | assumption) ?_
  refine hp _ _ _ _ F1 (cI_mono I1 (by omega) hm) E ⟨_, nG_cg v1 (by show _ = 4 * w; omega) (by show _ = w + w; omega) (fun _ _ => rfl) ?_, jsp_5 rfl ?_⟩
  · subst hw
    rcases (by omega : l = 3 ∨ l = 4 ∨ l = 5 ∨ l = 6) with rfl | rfl | rfl | rfl <;> decide
  · intro x y z v hx hy hz hv
    show f1 (x ++ (y ++ (z ++ v))) = bbits w ((bnum x * bnum y + bnum z + bnum v) / 2 ^ w) ++ bbits w (bnum x * bnum y + bnum z + bnum v)
    rw [s1 x y z v hx hy hz hv, Nat.two_mul, bbits_app]
end CD
