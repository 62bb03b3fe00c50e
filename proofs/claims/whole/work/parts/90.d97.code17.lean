/-! ===== definitions of jets: division ===== -/
def stF (w : Nat) (y : List Bool) (b : Bool) (r : List Bool) : Bool × List Bool := if 2 * bnum r + b.toNat < bnum y then (false, bbits w (2 * bnum r + b.toNat)) else (true, bbits w (2 * bnum r + b.toNat - bnum y))
def dvS (w : Nat) (y : List Bool) : List Bool → List Bool → List Bool × List Bool
  | [], r => ([], r)
  | b :: a, r => ((stF w y b r).1 :: (dvS w y a (stF w y b r).2).1, (dvS w y a (stF w y b r).2).2)
theorem dvS_app {w : Nat} {y : List Bool} : ∀ (a b r : List Bool), dvS w y (a ++ b) r = ((dvS w y a r).1 ++ (dvS w y b (dvS w y a r).2).1, (dvS w y b (dvS w y a r).2).2)
  | [], b, r => rfl
  | u :: a, b, r => by
    simp only [List.cons_append, dvS, dvS_app a b]
theorem stF_len {w : Nat} {y : List Bool} {b : Bool} {r : List Bool} : (stF w y b r).2.length = w := by
  unfold stF
  split <;> exact bbits_len _ _
theorem dvS_len {w : Nat} {y : List Bool} : ∀ (a r : List Bool), r.length = w → (dvS w y a r).1.length = a.length ∧ (dvS w y a r).2.length = w
  | [], r, h => ⟨rfl, h⟩
  | u :: a, r, h => by
    have ih := dvS_len (y := y) a (stF w y u r).2 stF_len
    exact ⟨by simp only [dvS, List.length_cons, ih.1], ih.2⟩
def dvP (w k : Nat) (f : gFn) : Prop := ∀ a r y, a.length = k → r.length = w → y.length = w → f (a ++ (r ++ y)) = (dvS w y a r).1 ++ (dvS w y a r).2
theorem dvP_1 {w : Nat} {f : gFn} (hs : pSp 21 w f) : dvP w 1 f := by
  intro a r y ha hr hy
  obtain ⟨b, rfl⟩ := li_1 ha
  rw [hs [b] r y rfl hr hy]
  have : bnum [b] = b.toNat := by cases b <;> rfl
  rw [this]
  simp only [dvS, stF]
  split <;> rfl
theorem dv_num {w : Nat} {y : List Bool} (hy : y.length = w) : ∀ (a r : List Bool), r.length = w → (bnum y = 0 → bnum r * 2 ^ a.length + bnum a < 2 ^ w) → (0 < bnum y → bnum r < bnum y) → bnum (dvS w y a r).2 = (bnum r * 2 ^ a.length + bnum a) % bnum y ∧ (0 < bnum y → bnum (dvS w y a r).1 = (bnum r * 2 ^ a.length + bnum a) / bnum y)
  | [], r, hr, h0, h1 => by
    simp only [dvS, List.length_nil, bnum_nil, Nat.pow_zero, Nat.mul_one, Nat.add_zero]
    by_cases e : bnum y = 0
    · rw [e, Nat.mod_zero]
      exact ⟨rfl, fun h => absurd h (by omega)⟩
    · have := h1 (by omega)
      rw [Nat.mod_eq_of_lt this, Nat.div_eq_of_lt this]
      exact ⟨rfl, fun _ => rfl⟩
  | u :: a, r, hr, h0, h1 => by
    have ih := dv_num hy a (stF w y u r).2 stF_len
    have ly := bnum_lt y
    rw [hy] at ly
    rw [List.length_cons, bnum_cons, Nat.pow_succ] at h0 ⊢
    have hp := Nat.two_pow_pos a.length
    have la := bnum_lt a
    have eX : bnum r * (2 ^ a.length * 2) + (u.toNat * 2 ^ a.length + bnum a) = (2 * bnum r + u.toNat) * 2 ^ a.length + bnum a := by
      rw [Nat.add_mul, ← Nat.add_assoc]
      congr 2
      rw [Nat.mul_comm (2 ^ a.length) 2, ← Nat.mul_assoc, Nat.mul_comm (bnum r) 2]
    rw [eX] at h0 ⊢
    simp only [dvS, bnum_cons]
    have hl := (dvS_len (y := y) a (stF w y u r).2 stF_len).1
    rw [hl]
    have hu : u.toNat ≤ 1 := by cases u <;> decide
    generalize hR : 2 * bnum r + u.toNat = R at *
    have e : stF w y u r = if R < bnum y then (false, bbits w R) else (true, bbits w (R - bnum y)) := by unfold stF; rw [hR]
    by_cases hlt : R < bnum y
    · rw [if_pos hlt] at e
      rw [e] at ih ⊢
      simp only [bnum_bbits] at ih
      rw [Nat.mod_eq_of_lt (show R < 2 ^ w by omega)] at ih
      obtain ⟨i1, i2⟩ := ih (fun z => by omega) (fun _ => hlt)
      refine ⟨i1, fun hz => ?_⟩
      rw [i2 hz]
      simp
    · rw [if_neg hlt] at e
      rw [e] at ih ⊢
      simp only [bnum_bbits] at ih
      by_cases hz : bnum y = 0
      · rw [hz, Nat.sub_zero] at ih
        have hx := h0 hz
        have hRw : R < 2 ^ w := by
          have := Nat.le_mul_of_pos_right R hp
          omega
        rw [Nat.mod_eq_of_lt hRw] at ih
        obtain ⟨i1, i2⟩ := ih (fun _ => hx) (fun z => absurd z (by omega))
        refine ⟨?_, fun z => absurd z (by omega)⟩
        rw [hz, Nat.sub_zero]
        exact i1
      · have hr2 := h1 (by omega)
        have hRw : R - bnum y < bnum y := by omega
        rw [Nat.mod_eq_of_lt (show R - bnum y < 2 ^ w by omega)] at ih
        obtain ⟨i1, i2⟩ := ih (fun z => absurd z hz) (fun _ => hRw)
        have eM : R * 2 ^ a.length + bnum a = (R - bnum y) * 2 ^ a.length + bnum a + 2 ^ a.length * bnum y := by
          have : R * 2 ^ a.length = (R - bnum y) * 2 ^ a.length + bnum y * 2 ^ a.length := by rw [← Nat.add_mul]; congr 1; omega
          rw [this, Nat.mul_comm (2 ^ a.length)]
          omega
        rw [eM, Nat.add_mul_mod_self_right, Nat.add_mul_div_right _ _ (by omega)]
        refine ⟨i1, fun z => ?_⟩
        rw [i2 z]
        simp
        omega
theorem bn_0 (w : Nat) : bnum (List.replicate w false) = 0 := by rw [← bb_0, bnum_bbits, Nat.zero_mod]
theorem dv_pure {w : Nat} {f : gFn} (hs : dvP w w f) : pSp 22 w (fun x => f (x.take w ++ (List.replicate w false ++ x.drop w))) := by
  intro x y hx hy
  have hl := dvS_len (w := w) (y := y) x (List.replicate w false) (by simp)
  have lx := bnum_lt x
  rw [hx] at lx
  have hn := dv_num hy x (List.replicate w false) (by simp) (fun _ => by rw [bn_0]; omega) (fun h => by rw [bn_0]; exact h)
  rw [bn_0, Nat.zero_mul, Nat.zero_add] at hn
  have hm : ∀ n, bnum x % n < 2 ^ w := fun n => Nat.lt_of_le_of_lt (Nat.mod_le _ _) lx
  have hdv : ∀ n, bnum x / n < 2 ^ w := fun n => Nat.lt_of_le_of_lt (Nat.div_le_self _ _) lx
  refine ⟨(dvS w y x (List.replicate w false)).1, by rw [hl.1, hx], ?_, fun hz => bbits_of (by rw [hl.1, hx]) (by rw [hn.2 hz, Nat.mod_eq_of_lt (hdv _)])⟩
  show f ((x ++ y).take w ++ (List.replicate w false ++ (x ++ y).drop w)) = _
  rw [li_ka hx.symm, li_da hx.symm, hs x _ y hx (by simp) hy]
  congr 1
  exact bbits_of hl.2 (by rw [hn.1, Nat.mod_eq_of_lt (hm _)])
def dQ (w : Nat) (q : gQ) : Nat → gQ
  | 0 => q
  | i + 1 => (qC ((2 ^ i + w) + ((2 ^ i) + w)) (qP (qC ((2 ^ i) + (2 * w)) (qP qL qL) (dQ w q i)) (qP qL (qD qL))) (qC ((2 ^ i) + (2 ^ i + w)) (qP qL (qC ((2 ^ i) + (w + w)) (qP (qD qL) (qP qL (qD qL))) (dQ w q i))) (qP (qP qL (qD qL)) (qD qL))))
section CD
variable {sc : xm_Sc} {d r : Nat} {J : List Nat} {post : xm_Po}
theorem dv_loop {lv w : Nat} {q : gQ} (hlv : lv < 7) (hw : 2 ^ lv = w) (hP : aOK sc r) (hlt : lv < r) (hJ : ∀ j ∈ J, r ≤ pH j) (hD : 4 * r ≤ d) : ∀ (n i c m p : Nat) (f : gFn) (h : xm_H) (G : Nat → gN), i + n = lv → XF h → cI h G c m J → m + 36 * n + 7 ≤ 8000 → nG G c p (2 ^ i + 2 * w) (2 ^ i + w) f (dQ w q i) → dvP w (2 ^ i) f →
    (∀ F, pSp 22 w F → cPo h G c (m + 36 * n + 7) J (2 * w) (2 * w) F (qC (w + (w + w)) (qP qL (qP (qc 13 lv) qL)) (dQ w q lv)) post) → xm_go (XE sc) (xm_T (XE sc) (d + 5)) 10 post 11 [(4, .int (nI i)), (3, .int (nI p)), (0, .ref 22), (1, .int (nI lv)), (2, .int (nI w))] [] h := by
  have hw64 := pw_l7 hlv
  rw [hw] at hw64
  intro n
  induction n with
  | zero =>
    intro i c m p f h G hi hF hI hm v hs hp
    have : i = lv := by omega
    subst this
    rw [hw] at v hs
    have E : cE h G c h G c := cE_rf
    with_reducible refine xm_go_blk b_X0_division_11 k_X0_division_11 ?_
    refine by_iload rfl ?_
    refine by_iload_n rfl ?_
    refine by_ic_ge 251 rfl ?_
    simp (disch := first | exact Nat.ne_of_beq_eq_false rfl | exact rfl | omega) only [nI_add, xa_sub, xa_mul, pk_div, nm_mod, xa_shr, xa_and7, xa_and1, xa_and255, xa_by_and, nI_m1, Nat.add_sub_cancel, Nat.reducePow, Nat.zero_add, Nat.add_zero, Nat.reduceAdd, Nat.reduceMul, Nat.reduceSub, xf_same, xq_ff, xq_fo, xf_1, xf_2, xs_1, xs_2, xs_same, xq_so, xj_1, xj_2, xj_same, xq_jo, xq_sa1, xq_same, xq_other, upd_s, oI_n, oI_s, xv_0, xv_1, xv_2, xv_3, xm_p1, xm_p2, xq_fp, xq_fn, List.filter_nil, Nat.reduceBEq, Bool.not_true, Bool.not_false, Bool.and_true, Bool.and_false, Bool.false_and, Bool.true_and, if_true, if_false, Bool.false_eq_true, reduceIte, xc_i, xc_j, xc_r, xc_n, List.nil_append, List.cons_append, Option.toList_some, Option.toList_none, nI_ltJ, nI_leJ, nI_eqJ, nI_ltz, nI_gez, nI_gtz, nI_lez, nI_eqz, m1_ltz, m1_gez, true_imp_iff, false_imp_iff, true_and, and_true, ne_eq, not_false_eq_true, not_true_eq_false, Nat.reduceEqDiff, Nat.reduceLT, Nat.reduceLeDiff]
    refine ⟨fun c11 => ?_, fun c => absurd (by omega) c⟩
    with_reducible refine xm_go_blk b_X0_division_251 k_X0_division_251 ?_
    refine by_aload_n rfl ?_
    refine by_aload_n rfl ?_
    refine by_aload_n rfl ?_
    refine by_iload_n rfl ?_
    refine by_iload_n rfl ?_
    refine by_inv2 cn_10 lk_0_95 (by rw [xe_cnt]; decide) is_15 np_15 cn_15 (by first | exact rfl | assumption) (Nat.le_of_ble_eq_true rfl) ?_
    refine sp_first hF hI (by omega) (by omega) (fun h1 G1 c1 n1 F1 I1 e1 v1 => ?_)
    replace v := nG_up v e1
    replace E := cE_tr E e1
    with_reducible refine xm_go_blk b_X0_division_259 k_X0_division_259 ?_
    refine by_aload_n rfl ?_
    refine by_aload_n rfl ?_
    refine by_iload_n rfl ?_
    refine by_iconst ci_2 ?_
    refine by_iload_n rfl ?_
    refine by_imul ?_
    simp (disch := first | exact Nat.ne_of_beq_eq_false rfl | exact rfl | omega) only [nI_add, xa_sub, xa_mul, pk_div, nm_mod, xa_shr, xa_and7, xa_and1, xa_and255, xa_by_and, nI_m1, Nat.add_sub_cancel, Nat.reducePow, Nat.zero_add, Nat.add_zero, Nat.reduceAdd, Nat.reduceMul, Nat.reduceSub, xf_same, xq_ff, xq_fo, xf_1, xf_2, xs_1, xs_2, xs_same, xq_so, xj_1, xj_2, xj_same, xq_jo, xq_sa1, xq_same, xq_other, upd_s, oI_n, oI_s, xv_0, xv_1, xv_2, xv_3, xm_p1, xm_p2, xq_fp, xq_fn, List.filter_nil, Nat.reduceBEq, Bool.not_true, Bool.not_false, Bool.and_true, Bool.and_false, Bool.false_and, Bool.true_and, if_true, if_false, Bool.false_eq_true, reduceIte, xc_i, xc_j, xc_r, xc_n, List.nil_append, List.cons_append, Option.toList_some, Option.toList_none]
    refine by_inv2 cn_10 lk_0_89 (by rw [xe_cnt]; decide) is_38 np_38 cn_38 (by first | exact rfl | assumption) (Nat.le_of_ble_eq_true rfl) ?_
    refine sp_zeros hP (by omega) (by omega) hJ (by omega) F1 I1 (by omega) (by omega) (fun h2 G2 c2 n2 F2 I2 e2 v2 => ?_)
    replace v := nG_up v e2
    replace v1 := nG_up v1 e2
    replace E := cE_tr E e2
    with_reducible refine xm_go_blk b_X0_division_268 k_X0_division_268 ?_
    refine by_aload_n rfl ?_
    refine by_iload_n rfl ?_
    refine by_iload_n rfl ?_
    refine by_inv2 cn_10 lk_0_92 (by rw [xe_cnt]; decide) is_32 np_32 cn_32 (by first | exact rfl | assumption) (Nat.le_of_ble_eq_true rfl) ?_
    refine sp_second F2 I2 (by omega) (by omega) (fun h3 G3 c3 n3 F3 I3 e3 v3 => ?_)
    replace v := nG_up v e3
    replace v1 := nG_up v1 e3
    replace v2 := nG_up v2 e3
    replace E := cE_tr E e3
    with_reducible refine xm_go_blk b_X0_division_274 k_X0_division_274 ?_
    refine by_inv2 cn_10 lk_0_80 (by rw [xe_cnt]; decide) is_25 np_25 cn_25 (by first | exact rfl | assumption) (Nat.le_of_ble_eq_true rfl) ?_
    refine sp_gpair F3 I3 (by omega) v2 v3 (by omega) (by omega) (fun h4 G4 c4 n4 F4 I4 e4 v4 => ?_)
    replace v := nG_up v e4
    replace v1 := nG_up v1 e4
    replace E := cE_tr E e4
    with_reducible refine xm_go_blk b_X0_division_277 k_X0_division_277 ?_
    refine by_inv2 cn_10 lk_0_80 (by rw [xe_cnt]; decide) is_25 np_25 cn_25 (by first | exact rfl | assumption) (Nat.le_of_ble_eq_true rfl) ?_
    refine sp_gpair F4 I4 (by omega) v1 v4 (by omega) (by omega) (fun h5 G5 c5 n5 F5 I5 e5 v5 => ?_)
    replace v := nG_up v e5
    replace E := cE_tr E e5
    with_reducible refine xm_go_blk b_X0_division_280 k_X0_division_280 ?_
    refine by_iload_n rfl ?_
    refine by_inv2 cn_10 lk_0_86 (by rw [xe_cnt]; decide) is_7 np_7 cn_7 (by first | exact rfl | assumption) (Nat.le_of_ble_eq_true rfl) ?_
    refine sp_gcomp F5 I5 (by omega) v5 v (by omega) (fun h6 G6 c6 n6 F6 I6 e6 v6 => ?_)
    replace E := cE_tr E e6
    with_reducible refine xm_go_blk b_X0_division_284 k_X0_division_284 ?_
    refine by_iret ry_10 (by first | rfl | assumption) ?_
    simp only [hw] at v6
    exact hp _ (dv_pure hs) _ _ _ _ F6 (cI_mono I6 (by omega) hm) E (nG_cg v6 (by omega) (by omega) (fun x hx => rfl) (qle_rf _))
  | succ n ih =>
    intro i c m p f h G hi hF hI hm v hs hp
    have hsh := pw_sh i (by omega)
    have hu64 := pw_l7 (l := i) (by omega)
    obtain ⟨u, hu⟩ : ∃ u, 2 ^ i = u := ⟨_, rfl⟩
    rw [hu] at hsh v hs hu64
    have hu2 : 2 ^ (i + 1) = 2 * u := by rw [Nat.pow_succ, hu, Nat.mul_comm]
    have hl := nG_len hI v
    have E : cE h G c h G c := cE_rf
    with_reducible refine xm_go_blk b_X0_division_11 k_X0_division_11 ?_
    refine by_iload rfl ?_
    refine by_iload_n rfl ?_
    refine by_ic_ge 251 rfl ?_
    simp (disch := first | exact Nat.ne_of_beq_eq_false rfl | exact rfl | omega) only [nI_add, xa_sub, xa_mul, pk_div, nm_mod, xa_shr, xa_and7, xa_and1, xa_and255, xa_by_and, nI_m1, Nat.add_sub_cancel, Nat.reducePow, Nat.zero_add, Nat.add_zero, Nat.reduceAdd, Nat.reduceMul, Nat.reduceSub, xf_same, xq_ff, xq_fo, xf_1, xf_2, xs_1, xs_2, xs_same, xq_so, xj_1, xj_2, xj_same, xq_jo, xq_sa1, xq_same, xq_other, upd_s, oI_n, oI_s, xv_0, xv_1, xv_2, xv_3, xm_p1, xm_p2, xq_fp, xq_fn, List.filter_nil, Nat.reduceBEq, Bool.not_true, Bool.not_false, Bool.and_true, Bool.and_false, Bool.false_and, Bool.true_and, if_true, if_false, Bool.false_eq_true, reduceIte, xc_i, xc_j, xc_r, xc_n, List.nil_append, List.cons_append, Option.toList_some, Option.toList_none, nI_ltJ, nI_leJ, nI_eqJ, nI_ltz, nI_gez, nI_gtz, nI_lez, nI_eqz, m1_ltz, m1_gez, true_imp_iff, false_imp_iff, true_and, and_true, ne_eq, not_false_eq_true, not_true_eq_false, Nat.reduceEqDiff, Nat.reduceLT, Nat.reduceLeDiff, hsh]
    refine ⟨fun c => absurd c (by omega), fun c11 => ?_⟩
    with_reducible refine xm_go_blk b_X0_division_17 k_X0_division_17 ?_
    refine by_iconst ci_1 ?_
    refine by_iload rfl ?_
    refine by_ishl ?_
    refine by_istore (by rw [ml_10]; decide) ?_
    refine by_aload_n rfl ?_
    refine by_aload_n rfl ?_
    refine by_aload_n rfl ?_
    refine by_aload_n rfl ?_
    refine by_iload rfl ?_
    refine by_iload rfl ?_
    simp (disch := first | exact Nat.ne_of_beq_eq_false rfl | exact rfl | omega) only [nI_add, xa_sub, xa_mul, pk_div, nm_mod, xa_shr, xa_and7, xa_and1, xa_and255, xa_by_and, nI_m1, Nat.add_sub_cancel, Nat.reducePow, Nat.zero_add, Nat.add_zero, Nat.reduceAdd, Nat.reduceMul, Nat.reduceSub, xf_same, xq_ff, xq_fo, xf_1, xf_2, xs_1, xs_2, xs_same, xq_so, xj_1, xj_2, xj_same, xq_jo, xq_sa1, xq_same, xq_other, upd_s, oI_n, oI_s, xv_0, xv_1, xv_2, xv_3, xm_p1, xm_p2, xq_fp, xq_fn, List.filter_nil, Nat.reduceBEq, Bool.not_true, Bool.not_false, Bool.and_true, Bool.and_false, Bool.false_and, Bool.true_and, if_true, if_false, Bool.false_eq_true, reduceIte, xc_i, xc_j, xc_r, xc_n, List.nil_append, List.cons_append, Option.toList_some, Option.toList_none, hsh]
    refine by_inv2 cn_10 lk_0_95 (by rw [xe_cnt]; decide) is_15 np_15 cn_15 (by first | exact rfl | assumption) (Nat.le_of_ble_eq_true rfl) ?_
    refine sp_first hF hI (by omega) (by omega) (fun h1 G1 c1 n1 F1 I1 e1 v1 => ?_)
    replace v := nG_up v e1
    replace E := cE_tr E e1
    with_reducible refine xm_go_blk b_X0_division_34 k_X0_division_34 ?_
    refine by_iconst ci_2 ?_
    refine by_iload_n rfl ?_
    refine by_imul ?_
    simp (disch := first | exact Nat.ne_of_beq_eq_false rfl | exact rfl | omega) only [nI_add, xa_sub, xa_mul, pk_div, nm_mod, xa_shr, xa_and7, xa_and1, xa_and255, xa_by_and, nI_m1, Nat.add_sub_cancel, Nat.reducePow, Nat.zero_add, Nat.add_zero, Nat.reduceAdd, Nat.reduceMul, Nat.reduceSub, xf_same, xq_ff, xq_fo, xf_1, xf_2, xs_1, xs_2, xs_same, xq_so, xj_1, xj_2, xj_same, xq_jo, xq_sa1, xq_same, xq_other, upd_s, oI_n, oI_s, xv_0, xv_1, xv_2, xv_3, xm_p1, xm_p2, xq_fp, xq_fn, List.filter_nil, Nat.reduceBEq, Bool.not_true, Bool.not_false, Bool.and_true, Bool.and_false, Bool.false_and, Bool.true_and, if_true, if_false, Bool.false_eq_true, reduceIte, xc_i, xc_j, xc_r, xc_n, List.nil_append, List.cons_append, Option.toList_some, Option.toList_none, hsh]
    refine by_inv2 cn_10 lk_0_101 (by rw [xe_cnt]; decide) is_33 np_33 cn_33 (by first | exact rfl | assumption) (Nat.le_of_ble_eq_true rfl) ?_
    refine sp_gtake F1 I1 (by omega) v1 (by omega) (fun h2 G2 c2 n2 F2 I2 e2 v2 => ?_)
    replace v := nG_up v e2
    replace E := cE_tr E e2
    with_reducible refine xm_go_blk b_X0_division_40 k_X0_division_40 ?_
    refine by_aload_n rfl ?_
    refine by_iconst ci_2 ?_
    refine by_iload rfl ?_
    refine by_imul ?_
    refine by_iconst ci_2 ?_
    refine by_iload_n rfl ?_
    refine by_imul ?_
    simp (disch := first | exact Nat.ne_of_beq_eq_false rfl | exact rfl | omega) only [nI_add, xa_sub, xa_mul, pk_div, nm_mod, xa_shr, xa_and7, xa_and1, xa_and255, xa_by_and, nI_m1, Nat.add_sub_cancel, Nat.reducePow, Nat.zero_add, Nat.add_zero, Nat.reduceAdd, Nat.reduceMul, Nat.reduceSub, xf_same, xq_ff, xq_fo, xf_1, xf_2, xs_1, xs_2, xs_same, xq_so, xj_1, xj_2, xj_same, xq_jo, xq_sa1, xq_same, xq_other, upd_s, oI_n, oI_s, xv_0, xv_1, xv_2, xv_3, xm_p1, xm_p2, xq_fp, xq_fn, List.filter_nil, Nat.reduceBEq, Bool.not_true, Bool.not_false, Bool.and_true, Bool.and_false, Bool.false_and, Bool.true_and, if_true, if_false, Bool.false_eq_true, reduceIte, xc_i, xc_j, xc_r, xc_n, List.nil_append, List.cons_append, Option.toList_some, Option.toList_none, hsh]
    refine by_inv2 cn_10 lk_0_92 (by rw [xe_cnt]; decide) is_32 np_32 cn_32 (by first | exact rfl | assumption) (Nat.le_of_ble_eq_true rfl) ?_
    refine sp_second F2 I2 (by omega) (by omega) (fun h3 G3 c3 n3 F3 I3 e3 v3 => ?_)
    replace v := nG_up v e3
    replace v2 := nG_up v2 e3
    replace E := cE_tr E e3
    with_reducible refine xm_go_blk b_X0_division_51 k_X0_division_51 ?_
    refine by_inv2 cn_10 lk_0_80 (by rw [xe_cnt]; decide) is_25 np_25 cn_25 (by first | exact rfl | assumption) (Nat.le_of_ble_eq_true rfl) ?_
    refine sp_gpair F3 I3 (by omega) v2 v3 (by omega) (by omega) (fun h4 G4 c4 n4 F4 I4 e4 v4 => ?_)
    replace v := nG_up v e4
    replace E := cE_tr E e4
    with_reducible refine xm_go_blk b_X0_division_54 k_X0_division_54 ?_
    refine by_iload_n rfl ?_
    refine by_inv2 cn_10 lk_0_86 (by rw [xe_cnt]; decide) is_7 np_7 cn_7 (by first | exact rfl | assumption) (Nat.le_of_ble_eq_true rfl) ?_
    refine sp_gcomp F4 I4 (by omega) v4 v (by omega) (fun h5 G5 c5 n5 F5 I5 e5 v5 => ?_)
    replace v := nG_up v e5
    replace E := cE_tr E e5
    with_reducible refine xm_go_blk b_X0_division_58 k_X0_division_58 ?_
    refine by_istore (by rw [ml_10]; decide) ?_
    refine by_aload_n rfl ?_
    refine by_iload rfl ?_
    refine by_aload_n rfl ?_
    refine by_aload_n rfl ?_
    refine by_aload_n rfl ?_
    refine by_iload rfl ?_
    refine by_iload rfl ?_
    simp (disch := first | exact Nat.ne_of_beq_eq_false rfl | exact rfl | omega) only [nI_add, xa_sub, xa_mul, pk_div, nm_mod, xa_shr, xa_and7, xa_and1, xa_and255, xa_by_and, nI_m1, Nat.add_sub_cancel, Nat.reducePow, Nat.zero_add, Nat.add_zero, Nat.reduceAdd, Nat.reduceMul, Nat.reduceSub, xf_same, xq_ff, xq_fo, xf_1, xf_2, xs_1, xs_2, xs_same, xq_so, xj_1, xj_2, xj_same, xq_jo, xq_sa1, xq_same, xq_other, upd_s, oI_n, oI_s, xv_0, xv_1, xv_2, xv_3, xm_p1, xm_p2, xq_fp, xq_fn, List.filter_nil, Nat.reduceBEq, Bool.not_true, Bool.not_false, Bool.and_true, Bool.and_false, Bool.false_and, Bool.true_and, if_true, if_false, Bool.false_eq_true, reduceIte, xc_i, xc_j, xc_r, xc_n, List.nil_append, List.cons_append, Option.toList_some, Option.toList_none, hsh]
    refine by_inv2 cn_10 lk_0_92 (by rw [xe_cnt]; decide) is_32 np_32 cn_32 (by first | exact rfl | assumption) (Nat.le_of_ble_eq_true rfl) ?_
    refine sp_second F5 I5 (by omega) (by omega) (fun h6 G6 c6 n6 F6 I6 e6 v6 => ?_)
    replace v := nG_up v e6
    replace v5 := nG_up v5 e6
    replace E := cE_tr E e6
    with_reducible refine xm_go_blk b_X0_division_73 k_X0_division_73 ?_
    refine by_iconst ci_2 ?_
    refine by_iload_n rfl ?_
    refine by_imul ?_
    simp (disch := first | exact Nat.ne_of_beq_eq_false rfl | exact rfl | omega) only [nI_add, xa_sub, xa_mul, pk_div, nm_mod, xa_shr, xa_and7, xa_and1, xa_and255, xa_by_and, nI_m1, Nat.add_sub_cancel, Nat.reducePow, Nat.zero_add, Nat.add_zero, Nat.reduceAdd, Nat.reduceMul, Nat.reduceSub, xf_same, xq_ff, xq_fo, xf_1, xf_2, xs_1, xs_2, xs_same, xq_so, xj_1, xj_2, xj_same, xq_jo, xq_sa1, xq_same, xq_other, upd_s, oI_n, oI_s, xv_0, xv_1, xv_2, xv_3, xm_p1, xm_p2, xq_fp, xq_fn, List.filter_nil, Nat.reduceBEq, Bool.not_true, Bool.not_false, Bool.and_true, Bool.and_false, Bool.false_and, Bool.true_and, if_true, if_false, Bool.false_eq_true, reduceIte, xc_i, xc_j, xc_r, xc_n, List.nil_append, List.cons_append, Option.toList_some, Option.toList_none, hsh]
    refine by_inv2 cn_10 lk_0_101 (by rw [xe_cnt]; decide) is_33 np_33 cn_33 (by first | exact rfl | assumption) (Nat.le_of_ble_eq_true rfl) ?_
    refine sp_gtake F6 I6 (by omega) v6 (by omega) (fun h7 G7 c7 n7 F7 I7 e7 v7 => ?_)
    replace v := nG_up v e7
    replace v5 := nG_up v5 e7
    replace E := cE_tr E e7
    with_reducible refine xm_go_blk b_X0_division_79 k_X0_division_79 ?_
    refine by_aload_n rfl ?_
    refine by_iconst ci_2 ?_
    refine by_iload rfl ?_
    refine by_imul ?_
    refine by_aload_n rfl ?_
    refine by_iload_n rfl ?_
    refine by_iload_n rfl ?_
    simp (disch := first | exact Nat.ne_of_beq_eq_false rfl | exact rfl | omega) only [nI_add, xa_sub, xa_mul, pk_div, nm_mod, xa_shr, xa_and7, xa_and1, xa_and255, xa_by_and, nI_m1, Nat.add_sub_cancel, Nat.reducePow, Nat.zero_add, Nat.add_zero, Nat.reduceAdd, Nat.reduceMul, Nat.reduceSub, xf_same, xq_ff, xq_fo, xf_1, xf_2, xs_1, xs_2, xs_same, xq_so, xj_1, xj_2, xj_same, xq_jo, xq_sa1, xq_same, xq_other, upd_s, oI_n, oI_s, xv_0, xv_1, xv_2, xv_3, xm_p1, xm_p2, xq_fp, xq_fn, List.filter_nil, Nat.reduceBEq, Bool.not_true, Bool.not_false, Bool.and_true, Bool.and_false, Bool.false_and, Bool.true_and, if_true, if_false, Bool.false_eq_true, reduceIte, xc_i, xc_j, xc_r, xc_n, List.nil_append, List.cons_append, Option.toList_some, Option.toList_none, hsh]
    refine by_inv2 cn_10 lk_0_92 (by rw [xe_cnt]; decide) is_32 np_32 cn_32 (by first | exact rfl | assumption) (Nat.le_of_ble_eq_true rfl) ?_
    refine sp_second F7 I7 (by omega) (by omega) (fun h8 G8 c8 n8 F8 I8 e8 v8 => ?_)
    replace v := nG_up v e8
    replace v5 := nG_up v5 e8
    replace v7 := nG_up v7 e8
    replace E := cE_tr E e8
    with_reducible refine xm_go_blk b_X0_division_90 k_X0_division_90 ?_
    refine by_inv2 cn_10 lk_0_47 (by rw [xe_cnt]; decide) is_12 np_12 cn_12 (by first | exact rfl | assumption) (Nat.le_of_ble_eq_true rfl) ?_
    refine sp_gdrop F8 I8 (by omega) v8 (by omega) (fun h9 G9 c9 n9 F9 I9 e9 v9 => ?_)
    replace v := nG_up v e9
    replace v5 := nG_up v5 e9
    replace v7 := nG_up v7 e9
    replace E := cE_tr E e9
    with_reducible refine xm_go_blk b_X0_division_93 k_X0_division_93 ?_
    refine by_inv2 cn_10 lk_0_80 (by rw [xe_cnt]; decide) is_25 np_25 cn_25 (by first | exact rfl | assumption) (Nat.le_of_ble_eq_true rfl) ?_
    refine sp_gpair F9 I9 (by omega) v7 v9 (by omega) (by omega) (fun h10 G10 c10 n10 F10 I10 e10 v10 => ?_)
    replace v := nG_up v e10
    replace v5 := nG_up v5 e10
    replace E := cE_tr E e10
    with_reducible refine xm_go_blk b_X0_division_96 k_X0_division_96 ?_
    refine by_inv2 cn_10 lk_0_80 (by rw [xe_cnt]; decide) is_25 np_25 cn_25 (by first | exact rfl | assumption) (Nat.le_of_ble_eq_true rfl) ?_
    refine sp_gpair F10 I10 (by omega) v5 v10 (by omega) (by omega) (fun h11 G11 c11 n11 F11 I11 e11 v11 => ?_)
    replace v := nG_up v e11
    replace E := cE_tr E e11
    with_reducible refine xm_go_blk b_X0_division_99 k_X0_division_99 ?_
    refine by_istore (by rw [ml_10]; decide) ?_
    refine by_aload_n rfl ?_
    refine by_aload_n rfl ?_
    refine by_aload_n rfl ?_
    refine by_iload rfl ?_
    refine by_iload_n rfl ?_
    refine by_iadd ?_
    refine by_aload_n rfl ?_
    refine by_iload rfl ?_
    refine by_iload_n rfl ?_
    simp (disch := first | exact Nat.ne_of_beq_eq_false rfl | exact rfl | omega) only [nI_add, xa_sub, xa_mul, pk_div, nm_mod, xa_shr, xa_and7, xa_and1, xa_and255, xa_by_and, nI_m1, Nat.add_sub_cancel, Nat.reducePow, Nat.zero_add, Nat.add_zero, Nat.reduceAdd, Nat.reduceMul, Nat.reduceSub, xf_same, xq_ff, xq_fo, xf_1, xf_2, xs_1, xs_2, xs_same, xq_so, xj_1, xj_2, xj_same, xq_jo, xq_sa1, xq_same, xq_other, upd_s, oI_n, oI_s, xv_0, xv_1, xv_2, xv_3, xm_p1, xm_p2, xq_fp, xq_fn, List.filter_nil, Nat.reduceBEq, Bool.not_true, Bool.not_false, Bool.and_true, Bool.and_false, Bool.false_and, Bool.true_and, if_true, if_false, Bool.false_eq_true, reduceIte, xc_i, xc_j, xc_r, xc_n, List.nil_append, List.cons_append, Option.toList_some, Option.toList_none, hsh]
    refine by_inv2 cn_10 lk_0_95 (by rw [xe_cnt]; decide) is_15 np_15 cn_15 (by first | exact rfl | assumption) (Nat.le_of_ble_eq_true rfl) ?_
    refine sp_first F11 I11 (by omega) (by omega) (fun h12 G12 c12 n12 F12 I12 e12 v12 => ?_)
    replace v := nG_up v e12
    replace v11 := nG_up v11 e12
    replace E := cE_tr E e12
    with_reducible refine xm_go_blk b_X0_division_115 k_X0_division_115 ?_
    refine by_inv2 cn_10 lk_0_47 (by rw [xe_cnt]; decide) is_12 np_12 cn_12 (by first | exact rfl | assumption) (Nat.le_of_ble_eq_true rfl) ?_
    refine sp_gdrop F12 I12 (by omega) v12 (by omega) (fun h13 G13 c13 n13 F13 I13 e13 v13 => ?_)
    replace v := nG_up v e13
    replace v11 := nG_up v11 e13
    replace E := cE_tr E e13
    with_reducible refine xm_go_blk b_X0_division_118 k_X0_division_118 ?_
    refine by_aload_n rfl ?_
    refine by_aload_n rfl ?_
    refine by_aload_n rfl ?_
    refine by_iload rfl ?_
    refine by_iload_n rfl ?_
    refine by_inv2 cn_10 lk_0_92 (by rw [xe_cnt]; decide) is_32 np_32 cn_32 (by first | exact rfl | assumption) (Nat.le_of_ble_eq_true rfl) ?_
    refine sp_second F13 I13 (by omega) (by omega) (fun h14 G14 c14 n14 F14 I14 e14 v14 => ?_)
    replace v := nG_up v e14
    replace v11 := nG_up v11 e14
    replace v13 := nG_up v13 e14
    replace E := cE_tr E e14
    with_reducible refine xm_go_blk b_X0_division_127 k_X0_division_127 ?_
    refine by_iload rfl ?_
    refine by_iload_n rfl ?_
    refine by_iadd ?_
    simp (disch := first | exact Nat.ne_of_beq_eq_false rfl | exact rfl | omega) only [nI_add, xa_sub, xa_mul, pk_div, nm_mod, xa_shr, xa_and7, xa_and1, xa_and255, xa_by_and, nI_m1, Nat.add_sub_cancel, Nat.reducePow, Nat.zero_add, Nat.add_zero, Nat.reduceAdd, Nat.reduceMul, Nat.reduceSub, xf_same, xq_ff, xq_fo, xf_1, xf_2, xs_1, xs_2, xs_same, xq_so, xj_1, xj_2, xj_same, xq_jo, xq_sa1, xq_same, xq_other, upd_s, oI_n, oI_s, xv_0, xv_1, xv_2, xv_3, xm_p1, xm_p2, xq_fp, xq_fn, List.filter_nil, Nat.reduceBEq, Bool.not_true, Bool.not_false, Bool.and_true, Bool.and_false, Bool.false_and, Bool.true_and, if_true, if_false, Bool.false_eq_true, reduceIte, xc_i, xc_j, xc_r, xc_n, List.nil_append, List.cons_append, Option.toList_some, Option.toList_none, hsh]
    refine by_inv2 cn_10 lk_0_101 (by rw [xe_cnt]; decide) is_33 np_33 cn_33 (by first | exact rfl | assumption) (Nat.le_of_ble_eq_true rfl) ?_
    refine sp_gtake F14 I14 (by omega) v14 (by omega) (fun h15 G15 c15 n15 F15 I15 e15 v15 => ?_)
    replace v := nG_up v e15
    replace v11 := nG_up v11 e15
    replace v13 := nG_up v13 e15
    replace E := cE_tr E e15
    with_reducible refine xm_go_blk b_X0_division_134 k_X0_division_134 ?_
    refine by_aload_n rfl ?_
    refine by_iload rfl ?_
    refine by_iload_n rfl ?_
    refine by_iadd ?_
    refine by_aload_n rfl ?_
    refine by_iload rfl ?_
    refine by_iload_n rfl ?_
    simp (disch := first | exact Nat.ne_of_beq_eq_false rfl | exact rfl | omega) only [nI_add, xa_sub, xa_mul, pk_div, nm_mod, xa_shr, xa_and7, xa_and1, xa_and255, xa_by_and, nI_m1, Nat.add_sub_cancel, Nat.reducePow, Nat.zero_add, Nat.add_zero, Nat.reduceAdd, Nat.reduceMul, Nat.reduceSub, xf_same, xq_ff, xq_fo, xf_1, xf_2, xs_1, xs_2, xs_same, xq_so, xj_1, xj_2, xj_same, xq_jo, xq_sa1, xq_same, xq_other, upd_s, oI_n, oI_s, xv_0, xv_1, xv_2, xv_3, xm_p1, xm_p2, xq_fp, xq_fn, List.filter_nil, Nat.reduceBEq, Bool.not_true, Bool.not_false, Bool.and_true, Bool.and_false, Bool.false_and, Bool.true_and, if_true, if_false, Bool.false_eq_true, reduceIte, xc_i, xc_j, xc_r, xc_n, List.nil_append, List.cons_append, Option.toList_some, Option.toList_none, hsh]
    refine by_inv2 cn_10 lk_0_92 (by rw [xe_cnt]; decide) is_32 np_32 cn_32 (by first | exact rfl | assumption) (Nat.le_of_ble_eq_true rfl) ?_
    refine sp_second F15 I15 (by omega) (by omega) (fun h16 G16 c16 n16 F16 I16 e16 v16 => ?_)
    replace v := nG_up v e16
    replace v11 := nG_up v11 e16
    replace v13 := nG_up v13 e16
    replace v15 := nG_up v15 e16
    replace E := cE_tr E e16
    with_reducible refine xm_go_blk b_X0_division_146 k_X0_division_146 ?_
    refine by_inv2 cn_10 lk_0_47 (by rw [xe_cnt]; decide) is_12 np_12 cn_12 (by first | exact rfl | assumption) (Nat.le_of_ble_eq_true rfl) ?_
    refine sp_gdrop F16 I16 (by omega) v16 (by omega) (fun h17 G17 c17 n17 F17 I17 e17 v17 => ?_)
    replace v := nG_up v e17
    replace v11 := nG_up v11 e17
    replace v13 := nG_up v13 e17
    replace v15 := nG_up v15 e17
    replace E := cE_tr E e17
    with_reducible refine xm_go_blk b_X0_division_149 k_X0_division_149 ?_
    refine by_inv2 cn_10 lk_0_80 (by rw [xe_cnt]; decide) is_25 np_25 cn_25 (by first | exact rfl | assumption) (Nat.le_of_ble_eq_true rfl) ?_
    refine sp_gpair F17 I17 (by omega) v15 v17 (by omega) (by omega) (fun h18 G18 c18 n18 F18 I18 e18 v18 => ?_)
    replace v := nG_up v e18
    replace v11 := nG_up v11 e18
    replace v13 := nG_up v13 e18
    replace E := cE_tr E e18
    with_reducible refine xm_go_blk b_X0_division_152 k_X0_division_152 ?_
    refine by_inv2 cn_10 lk_0_80 (by rw [xe_cnt]; decide) is_25 np_25 cn_25 (by first | exact rfl | assumption) (Nat.le_of_ble_eq_true rfl) ?_
    refine sp_gpair F18 I18 (by omega) v13 v18 (by omega) (by omega) (fun h19 G19 c19 n19 F19 I19 e19 v19 => ?_)
    replace v := nG_up v e19
    replace v11 := nG_up v11 e19
    replace E := cE_tr E e19
    with_reducible refine xm_go_blk b_X0_division_155 k_X0_division_155 ?_
    refine by_iload_n rfl ?_
    refine by_inv2 cn_10 lk_0_86 (by rw [xe_cnt]; decide) is_7 np_7 cn_7 (by first | exact rfl | assumption) (Nat.le_of_ble_eq_true rfl) ?_
    refine sp_gcomp F19 I19 (by omega) v19 v (by omega) (fun h20 G20 c20 n20 F20 I20 e20 v20 => ?_)
    replace v11 := nG_up v11 e20
    replace E := cE_tr E e20
    with_reducible refine xm_go_blk b_X0_division_159 k_X0_division_159 ?_
    refine by_istore (by rw [ml_10]; decide) ?_
    refine by_aload_n rfl ?_
    refine by_aload_n rfl ?_
    refine by_aload_n rfl ?_
    refine by_iload rfl ?_
    refine by_iload_n rfl ?_
    simp (disch := first | exact Nat.ne_of_beq_eq_false rfl | exact rfl | omega) only [nI_add, xa_sub, xa_mul, pk_div, nm_mod, xa_shr, xa_and7, xa_and1, xa_and255, xa_by_and, nI_m1, Nat.add_sub_cancel, Nat.reducePow, Nat.zero_add, Nat.add_zero, Nat.reduceAdd, Nat.reduceMul, Nat.reduceSub, xf_same, xq_ff, xq_fo, xf_1, xf_2, xs_1, xs_2, xs_same, xq_so, xj_1, xj_2, xj_same, xq_jo, xq_sa1, xq_same, xq_other, upd_s, oI_n, oI_s, xv_0, xv_1, xv_2, xv_3, xm_p1, xm_p2, xq_fp, xq_fn, List.filter_nil, Nat.reduceBEq, Bool.not_true, Bool.not_false, Bool.and_true, Bool.and_false, Bool.false_and, Bool.true_and, if_true, if_false, Bool.false_eq_true, reduceIte, xc_i, xc_j, xc_r, xc_n, List.nil_append, List.cons_append, Option.toList_some, Option.toList_none, hsh]
    refine by_inv2 cn_10 lk_0_95 (by rw [xe_cnt]; decide) is_15 np_15 cn_15 (by first | exact rfl | assumption) (Nat.le_of_ble_eq_true rfl) ?_
    refine sp_first F20 I20 (by omega) (by omega) (fun h21 G21 c21 n21 F21 I21 e21 v21 => ?_)
    replace v11 := nG_up v11 e21
    replace v20 := nG_up v20 e21
    replace E := cE_tr E e21
    with_reducible refine xm_go_blk b_X0_division_170 k_X0_division_170 ?_
    refine by_iload rfl ?_
    refine by_iload_n rfl ?_
    refine by_iadd ?_
    simp (disch := first | exact Nat.ne_of_beq_eq_false rfl | exact rfl | omega) only [nI_add, xa_sub, xa_mul, pk_div, nm_mod, xa_shr, xa_and7, xa_and1, xa_and255, xa_by_and, nI_m1, Nat.add_sub_cancel, Nat.reducePow, Nat.zero_add, Nat.add_zero, Nat.reduceAdd, Nat.reduceMul, Nat.reduceSub, xf_same, xq_ff, xq_fo, xf_1, xf_2, xs_1, xs_2, xs_same, xq_so, xj_1, xj_2, xj_same, xq_jo, xq_sa1, xq_same, xq_other, upd_s, oI_n, oI_s, xv_0, xv_1, xv_2, xv_3, xm_p1, xm_p2, xq_fp, xq_fn, List.filter_nil, Nat.reduceBEq, Bool.not_true, Bool.not_false, Bool.and_true, Bool.and_false, Bool.false_and, Bool.true_and, if_true, if_false, Bool.false_eq_true, reduceIte, xc_i, xc_j, xc_r, xc_n, List.nil_append, List.cons_append, Option.toList_some, Option.toList_none, hsh]
    refine by_inv2 cn_10 lk_0_101 (by rw [xe_cnt]; decide) is_33 np_33 cn_33 (by first | exact rfl | assumption) (Nat.le_of_ble_eq_true rfl) ?_
    refine sp_gtake F21 I21 (by omega) v21 (by omega) (fun h22 G22 c22 n22 F22 I22 e22 v22 => ?_)
    replace v11 := nG_up v11 e22
    replace v20 := nG_up v20 e22
    replace E := cE_tr E e22
    with_reducible refine xm_go_blk b_X0_division_177 k_X0_division_177 ?_
    refine by_iload rfl ?_
    refine by_inv2 cn_10 lk_0_80 (by rw [xe_cnt]; decide) is_25 np_25 cn_25 (by first | exact rfl | assumption) (Nat.le_of_ble_eq_true rfl) ?_
    refine sp_gpair F22 I22 (by omega) v22 v20 (by omega) (by omega) (fun h23 G23 c23 n23 F23 I23 e23 v23 => ?_)
    replace v11 := nG_up v11 e23
    replace E := cE_tr E e23
    with_reducible refine xm_go_blk b_X0_division_182 k_X0_division_182 ?_
    refine by_istore (by rw [ml_10]; decide) ?_
    refine by_aload_n rfl ?_
    refine by_aload_n rfl ?_
    refine by_aload_n rfl ?_
    refine by_iload rfl ?_
    refine by_iload rfl ?_
    refine by_iload_n rfl ?_
    refine by_iadd ?_
    simp (disch := first | exact Nat.ne_of_beq_eq_false rfl | exact rfl | omega) only [nI_add, xa_sub, xa_mul, pk_div, nm_mod, xa_shr, xa_and7, xa_and1, xa_and255, xa_by_and, nI_m1, Nat.add_sub_cancel, Nat.reducePow, Nat.zero_add, Nat.add_zero, Nat.reduceAdd, Nat.reduceMul, Nat.reduceSub, xf_same, xq_ff, xq_fo, xf_1, xf_2, xs_1, xs_2, xs_same, xq_so, xj_1, xj_2, xj_same, xq_jo, xq_sa1, xq_same, xq_other, upd_s, oI_n, oI_s, xv_0, xv_1, xv_2, xv_3, xm_p1, xm_p2, xq_fp, xq_fn, List.filter_nil, Nat.reduceBEq, Bool.not_true, Bool.not_false, Bool.and_true, Bool.and_false, Bool.false_and, Bool.true_and, if_true, if_false, Bool.false_eq_true, reduceIte, xc_i, xc_j, xc_r, xc_n, List.nil_append, List.cons_append, Option.toList_some, Option.toList_none, hsh]
    refine by_inv2 cn_10 lk_0_95 (by rw [xe_cnt]; decide) is_15 np_15 cn_15 (by first | exact rfl | assumption) (Nat.le_of_ble_eq_true rfl) ?_
    refine sp_first F23 I23 (by omega) (by omega) (fun h24 G24 c24 n24 F24 I24 e24 v24 => ?_)
    replace v11 := nG_up v11 e24
    replace v23 := nG_up v23 e24
    replace E := cE_tr E e24
    with_reducible refine xm_go_blk b_X0_division_196 k_X0_division_196 ?_
    refine by_aload_n rfl ?_
    refine by_iload rfl ?_
    refine by_aload_n rfl ?_
    refine by_iload rfl ?_
    refine by_iload_n rfl ?_
    refine by_inv2 cn_10 lk_0_95 (by rw [xe_cnt]; decide) is_15 np_15 cn_15 (by first | exact rfl | assumption) (Nat.le_of_ble_eq_true rfl) ?_
    refine sp_first F24 I24 (by omega) (by omega) (fun h25 G25 c25 n25 F25 I25 e25 v25 => ?_)
    replace v11 := nG_up v11 e25
    replace v23 := nG_up v23 e25
    replace v24 := nG_up v24 e25
    replace E := cE_tr E e25
    with_reducible refine xm_go_blk b_X0_division_206 k_X0_division_206 ?_
    refine by_inv2 cn_10 lk_0_47 (by rw [xe_cnt]; decide) is_12 np_12 cn_12 (by first | exact rfl | assumption) (Nat.le_of_ble_eq_true rfl) ?_
    refine sp_gdrop F25 I25 (by omega) v25 (by omega) (fun h26 G26 c26 n26 F26 I26 e26 v26 => ?_)
    replace v11 := nG_up v11 e26
    replace v23 := nG_up v23 e26
    replace v24 := nG_up v24 e26
    replace E := cE_tr E e26
    with_reducible refine xm_go_blk b_X0_division_209 k_X0_division_209 ?_
    refine by_inv2 cn_10 lk_0_80 (by rw [xe_cnt]; decide) is_25 np_25 cn_25 (by first | exact rfl | assumption) (Nat.le_of_ble_eq_true rfl) ?_
    refine sp_gpair F26 I26 (by omega) v24 v26 (by omega) (by omega) (fun h27 G27 c27 n27 F27 I27 e27 v27 => ?_)
    replace v11 := nG_up v11 e27
    replace v23 := nG_up v23 e27
    replace E := cE_tr E e27
    with_reducible refine xm_go_blk b_X0_division_212 k_X0_division_212 ?_
    refine by_aload_n rfl ?_
    refine by_iload rfl ?_
    refine by_aload_n rfl ?_
    refine by_iload rfl ?_
    refine by_iload_n rfl ?_
    refine by_inv2 cn_10 lk_0_92 (by rw [xe_cnt]; decide) is_32 np_32 cn_32 (by first | exact rfl | assumption) (Nat.le_of_ble_eq_true rfl) ?_
    refine sp_second F27 I27 (by omega) (by omega) (fun h28 G28 c28 n28 F28 I28 e28 v28 => ?_)
    replace v11 := nG_up v11 e28
    replace v23 := nG_up v23 e28
    replace v27 := nG_up v27 e28
    replace E := cE_tr E e28
    with_reducible refine xm_go_blk b_X0_division_222 k_X0_division_222 ?_
    refine by_inv2 cn_10 lk_0_47 (by rw [xe_cnt]; decide) is_12 np_12 cn_12 (by first | exact rfl | assumption) (Nat.le_of_ble_eq_true rfl) ?_
    refine sp_gdrop F28 I28 (by omega) v28 (by omega) (fun h29 G29 c29 n29 F29 I29 e29 v29 => ?_)
    replace v11 := nG_up v11 e29
    replace v23 := nG_up v23 e29
    replace v27 := nG_up v27 e29
    replace E := cE_tr E e29
    with_reducible refine xm_go_blk b_X0_division_225 k_X0_division_225 ?_
    refine by_inv2 cn_10 lk_0_80 (by rw [xe_cnt]; decide) is_25 np_25 cn_25 (by first | exact rfl | assumption) (Nat.le_of_ble_eq_true rfl) ?_
    refine sp_gpair F29 I29 (by omega) v27 v29 (by omega) (by omega) (fun h30 G30 c30 n30 F30 I30 e30 v30 => ?_)
    replace v11 := nG_up v11 e30
    replace v23 := nG_up v23 e30
    replace E := cE_tr E e30
    with_reducible refine xm_go_blk b_X0_division_228 k_X0_division_228 ?_
    refine by_istore (by rw [ml_10]; decide) ?_
    refine by_aload_n rfl ?_
    refine by_iload rfl ?_
    refine by_aload_n rfl ?_
    refine by_iload rfl ?_
    refine by_iload rfl ?_
    simp (disch := first | exact Nat.ne_of_beq_eq_false rfl | exact rfl | omega) only [nI_add, xa_sub, xa_mul, pk_div, nm_mod, xa_shr, xa_and7, xa_and1, xa_and255, xa_by_and, nI_m1, Nat.add_sub_cancel, Nat.reducePow, Nat.zero_add, Nat.add_zero, Nat.reduceAdd, Nat.reduceMul, Nat.reduceSub, xf_same, xq_ff, xq_fo, xf_1, xf_2, xs_1, xs_2, xs_same, xq_so, xj_1, xj_2, xj_same, xq_jo, xq_sa1, xq_same, xq_other, upd_s, oI_n, oI_s, xv_0, xv_1, xv_2, xv_3, xm_p1, xm_p2, xq_fp, xq_fn, List.filter_nil, Nat.reduceBEq, Bool.not_true, Bool.not_false, Bool.and_true, Bool.and_false, Bool.false_and, Bool.true_and, if_true, if_false, Bool.false_eq_true, reduceIte, xc_i, xc_j, xc_r, xc_n, List.nil_append, List.cons_append, Option.toList_some, Option.toList_none, hsh]
    refine by_inv2 cn_10 lk_0_86 (by rw [xe_cnt]; decide) is_7 np_7 cn_7 (by first | exact rfl | assumption) (Nat.le_of_ble_eq_true rfl) ?_
    refine sp_gcomp F30 I30 (by omega) v23 v30 (by omega) (fun h31 G31 c31 n31 F31 I31 e31 v31 => ?_)
    replace v11 := nG_up v11 e31
    replace E := cE_tr E e31
    with_reducible refine xm_go_blk b_X0_division_241 k_X0_division_241 ?_
    refine by_inv2 cn_10 lk_0_86 (by rw [xe_cnt]; decide) is_7 np_7 cn_7 (by first | exact rfl | assumption) (Nat.le_of_ble_eq_true rfl) ?_
    refine sp_gcomp F31 I31 (by omega) v11 v31 (by omega) (fun h32 G32 c32 n32 F32 I32 e32 v32 => ?_)
    replace E := cE_tr E e32
    with_reducible refine xm_go_blk b_X0_division_244 k_X0_division_244 ?_
    refine by_istore_n (by rw [ml_10]; decide) ?_
    refine by_iinc (by rw [ml_10]; decide) rfl ci_1 ?_
    refine by_goto 11 rfl ?_
    try simp (disch := first | exact Nat.ne_of_beq_eq_false rfl | exact rfl | omega) only [nI_add, xa_sub, xa_mul, pk_div, nm_mod, xa_shr, xa_and7, xa_and1, xa_and255, xa_by_and, nI_m1, Nat.add_sub_cancel, Nat.reducePow, Nat.zero_add, Nat.add_zero, Nat.reduceAdd, Nat.reduceMul, Nat.reduceSub, xf_same, xq_ff, xq_fo, xf_1, xf_2, xs_1, xs_2, xs_same, xq_so, xj_1, xj_2, xj_same, xq_jo, xq_sa1, xq_same, xq_other, upd_s, oI_n, oI_s, xv_0, xv_1, xv_2, xv_3, xm_p1, xm_p2, xq_fp, xq_fn, List.filter_nil, Nat.reduceBEq, Bool.not_true, Bool.not_false, Bool.and_true, Bool.and_false, Bool.false_and, Bool.true_and, if_true, if_false, Bool.false_eq_true, reduceIte, xc_i, xc_j, xc_r, xc_n, List.nil_append, List.cons_append, Option.toList_some, Option.toList_none, hsh]
    refine xm_go_wk (by simp [Value.category]) (ih (i + 1) _ (m + 36) _ _ h32 G32 (by omega) F32 (cI_mono I32 (by omega) (by omega)) (by omega) (nG_cg v32 (by omega) (by omega) (fun _ _ => rfl) (by show qle _ (dQ w q (i + 1)); simp only [dQ, hu]; exact qle_rf _)) ?_ (fun F hF' => ?_))
    · rw [hu2]
      intro a r y ha hr hy
      obtain ⟨a1, a0, rfl, g1, g0⟩ := li_s2 (x := a) (w := u) (by omega)
      have l1 := dvS_len (y := y) a1 r hr
      have l2 := dvS_len (y := y) a0 (dvS w y a1 r).2 l1.2
      have e1 := hs a1 r y g1 hr hy
      have e2 := hs a0 (dvS w y a1 r).2 y g0 l1.2 hy
      rw [dvS_app]
      generalize (dvS w y a1 r).1 = q1 at *
      generalize (dvS w y a1 r).2 = r1 at *
      generalize (dvS w y a0 r1).1 = q0 at *
      generalize (dvS w y a0 r1).2 = r0 at *
      obtain ⟨l11, l12⟩ := l1
      obtain ⟨l21, l22⟩ := l2
      simp (disch := ((try simp only [List.length_append]); omega)) only [List.append_assoc, li_ka, li_da, li_kb, li_db, li_kw, li_dz, e1, e2]
    · have hp' := hp F hF'
      intro h' G' c' n' k1 k2 k3 k4
      exact hp' h' G' c' n' k1 (cI_mono k2 (by omega) (by omega)) (cE_tr E k3) k4
theorem bj_22 {l : Nat} (h3 : 3 ≤ l) (hl : l < 7) : BdOK sc 22 l := by
  intro r d c m h G J post hP hr hd hF hI hJ hm hp
  rw [pH_e (by omega)] at hr
  have hr' : r = 3 + l := hr
  have ho : oc 22 l = 36 * l + 7 := (by decide : ∀ l, l < 7 → 3 ≤ l → oc 22 l = 36 * l + 7) l hl h3
  rw [ho] at hm hp
  have hw64 := pw_l7 hl
  rw [if_pos (by decide)]
  unfold bPo gP at hp
  obtain ⟨w, hw⟩ : ∃ w, 2 ^ l = w := ⟨_, rfl⟩
  rw [hw] at hw64 hp
  rw [hw]
  refine xq_in rfl ?_
  simp only [xq_a0, xq_aI, xq_aJ, xq_aR, Nat.reduceAdd]
  with_reducible refine xm_go_blk b_X0_joinedPiece_0 k_X0_joinedPiece_0 ?_
  refine by_iload_n rfl ?_
  refine by_sw ?_
  refine xq_sw 95 (by decide) (by decide) ?_
  with_reducible refine xm_go_blk b_X0_joinedPiece_95 k_X0_joinedPiece_95 ?_
  refine by_aload_n rfl ?_
  refine by_iload_n rfl ?_
  refine by_iload_n rfl ?_
  refine by_inv2 cn_20 lk_0_120 (by rw [xe_cnt]; decide) is_10 np_10 cn_10 (by first | exact rfl | assumption) (Nat.le_of_ble_eq_true rfl) ?_
  refine xq_in rfl ?_
  simp only [xq_a0, xq_aI, xq_aJ, xq_aR, Nat.reduceAdd]
  with_reducible refine xm_go_blk b_X0_division_0 k_X0_division_0 ?_
  refine by_aload_n rfl ?_
  refine by_bipush cb_21 ?_
  refine by_iload_n rfl ?_
  refine by_inv2 cn_10 lk_0_83 (by rw [xe_cnt]; decide) is_26 np_26 cn_26 (by first | exact rfl | assumption) (Nat.le_of_ble_eq_true rfl) ?_
  refine sp_pc (a := 2) hP ⟨by omega, by omega, by omega⟩ rfl (by omega) hJ (by omega) hF hI (fun h1 G1 c1 n1 F1 I1 e1 p1 => ?_)
  obtain ⟨f1, v1, s1⟩ := p1
  simp only [pS, pT, hw] at v1
  rw [hw] at s1
  with_reducible refine xm_go_blk b_X0_division_7 k_X0_division_7 ?_
  refine by_istore_n (by rw [ml_10]; decide) ?_
  refine by_iconst ci_0 ?_
  refine by_istore (by rw [ml_10]; decide) ?_
  refine by_nil ?_
  try simp (disch := first | exact Nat.ne_of_beq_eq_false rfl | exact rfl | omega) only [nI_add, xa_sub, xa_mul, pk_div, nm_mod, xa_shr, xa_and7, xa_and1, xa_and255, xa_by_and, nI_m1, Nat.add_sub_cancel, Nat.reducePow, Nat.zero_add, Nat.add_zero, Nat.reduceAdd, Nat.reduceMul, Nat.reduceSub, xf_same, xq_ff, xq_fo, xf_1, xf_2, xs_1, xs_2, xs_same, xq_so, xj_1, xj_2, xj_same, xq_jo, xq_sa1, xq_same, xq_other, upd_s, oI_n, oI_s, xv_0, xv_1, xv_2, xv_3, xm_p1, xm_p2, xq_fp, xq_fn, List.filter_nil, Nat.reduceBEq, Bool.not_true, Bool.not_false, Bool.and_true, Bool.and_false, Bool.false_and, Bool.true_and, if_true, if_false, Bool.false_eq_true, reduceIte, xc_i, xc_j, xc_r, xc_n, List.nil_append, List.cons_append, Option.toList_some, Option.toList_none]
  refine xm_go_wk (by simp [Value.category]) (dv_loop (q := qc 21 l) hl hw hP (by omega) hJ hd l 0 c1 m n1 f1 h1 G1 (by omega) F1 I1 (by omega) (nG_cg v1 (by omega) (by omega) (fun _ _ => rfl) (qle_rf _)) (dvP_1 s1) (fun F hF' h2 G2 c2 n2 F2 I2 e2 v2 => ?_))
  with_reducible refine xm_go_blk b_X0_joinedPiece_101 k_X0_joinedPiece_101 ?_
  refine by_iret ry_20 (by first | rfl | assumption) ?_
  refine hp _ _ _ _ F2 (cI_mono I2 (by omega) hm) (cE_tr e1 e2) ⟨F, nG_cg v2 rfl rfl (fun _ _ => rfl) ?_, hF'⟩
  subst hw
  rcases (by omega : l = 3 ∨ l = 4 ∨ l = 5 ∨ l = 6) with rfl | rfl | rfl | rfl <;> decide
end CD
