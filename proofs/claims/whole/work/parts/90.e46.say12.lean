/-! ===== say: the class begins a turn ===== -/
theorem tkP_stop {t : List Nat} : ∀ (n p : Nat), p + n = t.length → ¬ (tkP t p < t.length ∧ sP (t.getD (tkP t p) 0)) := by
  intro n
  induction n with
  | zero =>
    intro p hp h
    rw [tkP_e (by omega)] at h
    omega
  | succ n ih =>
    intro p hp
    by_cases e : sP (t.getD p 0)
    · rw [tkP_s (by omega) e]
      exact ih (p + 1) (by omega)
    · rw [tkP_e (fun z => e z.2)]
      exact fun z => e z.2
theorem tk5_P {t : List Nat} {p : Nat} (h : tkK t p = 5) : tkF t p < t.length ∧ sP (t.getD (tkF t p) 0) := by
  unfold tkK at h
  split at h
  · cases h
  · rename_i h1
    split at h
    · cases h
    · split at h
      · cases h
      · split at h
        · cases h
        · split at h
          · rename_i h5
            exact ⟨by omega, h5⟩
          · cases h
theorem tk_sep {t : List Nat} {p : Nat} (h : tkK t p = 5) (h2 : tkK t (tkE t p) = 5) : tkE t p < tkF t (tkE t p) := by
  obtain ⟨a1, a2⟩ := tk5_P h
  obtain ⟨b1, b2⟩ := tk5_P h2
  have e := (tk_5 a1 a2).2
  have st := tkP_stop (t := t) (t.length - (tkF t p + 1)) (tkF t p + 1) (by omega)
  rw [← e] at st
  have := (tkF_b t (tkE t p)).1
  by_cases z : tkE t p = tkF t (tkE t p)
  · rw [← z] at b1 b2
    exact absurd ⟨b1, b2⟩ st
  · omega
theorem new5 {t w : List Nat} {p : Nat} (hp : p ≤ t.length) (h : wdO t p = some w) (hw : tgI w = some 13) (h2 : tkK t (tkE t p) = 5) : p + 5 ≤ tkE t (tkE t p) := by
  obtain ⟨a1, a2, a3⟩ := wdO_W h
  obtain ⟨b1, b2, b3, b4⟩ := tk_b hp
  obtain ⟨d1, d2, d3, d4⟩ := tk_b b3
  have hs := tk_sep a1 h2
  have hl := (tgR_lt 14 0 13 hw).2
  have h3 : w.length = 3 := by rw [hl]; rfl
  rw [a3, wrd_len b3] at h3
  have := d4 (by rw [h2]; decide)
  omega
/-- what begin answers -/
def oB (o : Option Nat) : Int32 := match o with
  | none => -2
  | some n => nI n
/-- what a turn of the class finds -/
def cT (h : xm_H) (pp : Nat) (t : List Nat) (NL : List (List Nat × Nat)) (G : sG) (st : List (Option Nat)) (p nh W : Nat) : Prop := XF h ∧ cT1 h pp t NL st W ∧ ckG h pp G nh ∧ 64 * nh ≤ p ∧ h.2.2 46 13 = .int (nI p)
section SY
variable {sc : xm_Sc} {d pp n c nh p W : Nat} {t : List Nat} {NL : List (List Nat × Nat)} {G : sG} {st : List (Option Nat)} {h : xm_H} {post : xm_Po}
theorem cT1_push {h' : xm_H} {o : Option Nat} {x : Int32} (hpp : pp = 52 ∨ pp = 77) (hT : cT1 h pp t NL st W) (hx : x = (match o with
    | none => -3
    | some n => nI n)) (e : h' = xm_sf (xm_si h 47 st.length x) 46 8 (.int (nI (st.length + 1)))) : cT1 h' pp t NL (o :: st) W := by
  have f : Fr [47] [(46, 8)] h h' := by rw [e]; exact Fr_sf (Fr_si Fr_rf (by simp)) (by simp)
  obtain ⟨a1, a2, a3, a4, a5, a6, a7⟩ := hT
  refine ⟨by rw [f.2.2 _ _ (by simp)]; exact a1, by rw [f.2.2 _ _ (by simp)]; exact a2, rowIs_fr a3 f (by simp) (by simp) (by simp), nmX_fr a4 f (by simp) (by simp) (by simp) (by simp) (by simp), by rw [e]; simp [xm_sf, updV], ⟨?_, ckS_o a6 (fun j hj => ?_)⟩, by rw [f.2.2 _ _ (by simp)]; exact a7.1, fun y hy => by rw [f.1 _ (by simp)]; exact a7.2 y hy⟩
  · refine Eq.trans ?_ hx
    rw [e]
    simp [xm_sf, xm_si, upd]
  · rw [e]
    have : j ≠ st.length := by omega
    simp [xm_sf, xm_si, upd, this]
theorem sp_xbegin (hpp : pp = 52 ∨ pp = 77) (hT : cT h pp t NL G st p nh W) (hI : sInv t NL G st) (hpt : p ≤ t.length) (hst : st.length + 2 ≤ p) (hW : W < 1000000)
    (hB : ∀ e f h' W', sBeg t NL G st p = .inl (e, f) → Fr (sbR pp) (sbT pp) h h' → ordI h' W' → W' ≤ W + 1 → h'.2.2 46 16 = .int (nI e) → h'.2.2 46 0 = .int (nI f) → post (some (.int (-1))) h')
    (hG : ∀ S o h' nh' W', sBeg t NL G st p = .inr (S, o) → Fr (sbR pp) (sbT pp) h h' → cT h' pp t NL S.1 S.2.1 S.2.2 nh' W' → W ≤ W' → 5 * W' + p ≤ 5 * W + S.2.2 → h'.2.2 46 16 = h.2.2 46 16 → h'.2.2 46 0 = h.2.2 46 0 → post (some (.int (oB o))) h') : xm_T (XE sc) (d + 4) 142 [.ref 46] h post := by
  obtain ⟨hF, hT1, hg, hnh, hto⟩ := hT
  have ht8 : t.length ≤ 8192 := hT1.2.2.1.2.2.1
  obtain ⟨⟨rk, M, hd⟩, hNL⟩ := hI
  obtain ⟨b1, b2, b3, b4⟩ := tk_b hpt
  obtain ⟨v1, v2, v3, v4⟩ := tk_b b3
  have hk5 := tkK_le t p
  have qq : pp + 1 ∉ ([47] : List Nat) ∧ pp + 2 ∉ ([47] : List Nat) ∧ pp + 3 ∉ ([47] : List Nat) ∧ pp + 4 ∉ ([47] : List Nat) ∧ pp + 5 ∉ ([47] : List Nat) ∧ pp + 11 ∉ ([47] : List Nat) ∧ (pp, 0) ∉ ([(46, 8)] : List (Nat × Nat)) ∧ (pp, 15) ∉ ([(46, 8)] : List (Nat × Nat)) ∧ (pp, 0) ∉ swdF ∧ (pp, 15) ∉ swdF ∧ (46, 13) ∉ [(pp, 0)] ∧ (46, 16) ∉ [(pp, 0)] ∧ (46, 0) ∉ [(pp, 0)] ∧ (46, 13) ∉ rnT pp ∧ (pp, 15) ∉ [(pp, 0)] ∧ pp + 11 ∉ paR pp := by rcases hpp with rfl | rfl <;> (repeat' apply And.intro) <;> decide
  obtain ⟨z1, z2, z3, z4, z5, z11, y0, y15, x0, x15, u13, u16, u0, r13, u15, p11⟩ := qq
  have sbS : ∀ c ∈ scpR pp, c ∈ sbR pp := by intro c hc; simp [sbR] at hc ⊢; omega
  have sbU : ∀ q ∈ scpT pp, q ∈ sbT pp := by intro q hq; simp [sbT] at hq ⊢; rcases hq with rfl | rfl | rfl | rfl | rfl | rfl | rfl | rfl | rfl <;> simp
  have fcp : ∀ {h1 h2 : xm_H}, Fr (scpR pp) (scpT pp) h1 h2 → Fr (sbR pp) (sbT pp) h1 h2 := fun f => Fr_mo f sbS sbU
  -- a word is taken
  have nw : ∀ (h1 : xm_H) (p1 : Nat) (post' : xm_Po), cT1 h1 pp t NL st W → XF h1 → Fr (scpR pp) (scpT pp) h h1 → h1.2.2 46 13 = .int (nI p1) → p1 ≤ t.length → (∀ h2, Fr [] swdF h1 h2 → wdS h2 t p1 → cT1 h2 pp t NL st W → XF h2 → Fr (scpR pp) (scpT pp) h h2 → post' none h2) → xm_T (XE sc) (d + 3) 147 [.ref 46] h1 post' := fun h1 p1 post' hT1 F1 f1 hto hp1 hk =>
    sp_nextWord (d := d) F1 hT1.1 hT1.2.2.1 hto hp1 (fun h2 f2 w2 => hk h2 f2 w2 (cT1_fr hpp hT1 (Fr_mo f2 (by simp) (by simp))) (Fr_XF F1 f2 (by decide +kernel)) (Fr_tr f1 f2 (by simp) (by simp)))
  have bad : ∀ e f (h1 : xm_H) (lv : List Nat), sBeg t NL G st p = .inl (e, f) → Fr (scpR pp) (scpT pp) h h1 → ordI h1 W → post (some (.int (-1))) (xm_sf (xm_sf h1 46 16 (.int (nI e))) 46 0 (.int (nI f))) := fun e f h1 _ hb f1 ho =>
    hB e f _ W hb (fcp (Fr_sf (Fr_sf f1 (by simp)) (by simp))) ⟨by simpa [xm_sf, updV] using ho.1, ho.2⟩ (Nat.le_succ _) (by simp [xm_sf, updV]) (by simp [xm_sf, updV])
  refine xq_in rfl ?_
  simp only [xq_a0, xq_aI, xq_aJ, xq_aR, Nat.reduceAdd]
  with_reducible refine xm_go_blk b_X9_begin_0 k_X9_begin_0 ?_
  refine by_aload_n rfl ?_
  refine by_inv0 cn_142 lk_9_97 (by rw [xe_cnt]; decide) is_147 np_147 cn_147 (by first | exact rfl | assumption) (Nat.le_of_ble_eq_true rfl) ?_
  refine nw h p _ hT1 hF Fr_rf hto hpt (fun h1 f1 w1 T1 F1 g1 => ?_)
  have cg1 : ckG h1 pp G nh := cG_fr hg f1 (by simp) (by simp) (by simp) (by simp) (by simp) (by simp) x0 x15
  obtain ⟨w11, w12, w13, w14, w15⟩ := w1
  by_cases k3 : tkK t p = 3
  · have lt := b4 (by rw [k3]; decide)
    rw [k3] at w11
    have eb : sBeg t NL G st p = .inr ((G, none :: st, tkE t p), none) := by unfold sBeg; rw [if_pos k3]
    with_reducible refine xm_go_blk b_X9_begin_4 k_X9_begin_4 ?_
    refine by_aload_n rfl ?_
    refine by_getf cn_142 fl_9_107 (by first | exact rfl | assumption) (by decide) ?_
    simp (disch := first | exact Nat.ne_of_beq_eq_false rfl | exact rfl | omega) only [nI_add, xa_sub, xa_mul, pk_div, nm_mod, xa_shr, xa_and7, xa_and1, xa_and255, xa_by_and, nI_m1, Nat.add_sub_cancel, Nat.reducePow, Nat.zero_add, Nat.add_zero, Nat.reduceAdd, Nat.reduceMul, Nat.reduceSub, xf_same, xq_ff, xq_fo, xf_1, xf_2, xs_1, xs_2, xs_same, xq_so, xj_1, xj_2, xj_same, xq_jo, xq_sa1, xq_same, xq_other, upd_s, oI_n, oI_s, w11, w12, w15]
    refine by_istore_n (by rw [ml_142]; decide) ?_
    refine by_aload_n rfl ?_
    refine by_getf cn_142 fl_9_126 (by first | exact rfl | assumption) (by decide) ?_
    simp (disch := first | exact Nat.ne_of_beq_eq_false rfl | exact rfl | omega) only [nI_add, xa_sub, xa_mul, pk_div, nm_mod, xa_shr, xa_and7, xa_and1, xa_and255, xa_by_and, nI_m1, Nat.add_sub_cancel, Nat.reducePow, Nat.zero_add, Nat.add_zero, Nat.reduceAdd, Nat.reduceMul, Nat.reduceSub, xf_same, xq_ff, xq_fo, xf_1, xf_2, xs_1, xs_2, xs_same, xq_so, xj_1, xj_2, xj_same, xq_jo, xq_sa1, xq_same, xq_other, upd_s, oI_n, oI_s, w11, w12, w15]
    refine by_istore_n (by rw [ml_142]; decide) ?_
    refine by_aload_n rfl ?_
    refine by_getf cn_142 fl_9_100 (by first | exact rfl | assumption) (by decide) ?_
    refine by_iconst ci_3 ?_
    simp (disch := first | exact Nat.ne_of_beq_eq_false rfl | exact rfl | omega) only [nI_add, xa_sub, xa_mul, pk_div, nm_mod, xa_shr, xa_and7, xa_and1, xa_and255, xa_by_and, nI_m1, Nat.add_sub_cancel, Nat.reducePow, Nat.zero_add, Nat.add_zero, Nat.reduceAdd, Nat.reduceMul, Nat.reduceSub, xf_same, xq_ff, xq_fo, xf_1, xf_2, xs_1, xs_2, xs_same, xq_so, xj_1, xj_2, xj_same, xq_jo, xq_sa1, xq_same, xq_other, upd_s, oI_n, oI_s, w11, w12, w15]
    refine by_ic_ne 29 rfl ?_
    simp (disch := first | exact Nat.ne_of_beq_eq_false rfl | exact rfl | omega) only [nI_add, xa_sub, xa_mul, pk_div, nm_mod, xa_shr, xa_and7, xa_and1, xa_and255, xa_by_and, nI_m1, Nat.add_sub_cancel, Nat.reducePow, Nat.zero_add, Nat.add_zero, Nat.reduceAdd, Nat.reduceMul, Nat.reduceSub, xf_same, xq_ff, xq_fo, xf_1, xf_2, xs_1, xs_2, xs_same, xq_so, xj_1, xj_2, xj_same, xq_jo, xq_sa1, xq_same, xq_other, upd_s, oI_n, oI_s, xv_0, xv_1, xv_2, xv_3, xm_p1, xm_p2, xq_fp, xq_fn, List.filter_nil, Nat.reduceBEq, Bool.not_true, Bool.not_false, Bool.and_true, Bool.and_false, Bool.false_and, Bool.true_and, if_true, if_false, Bool.false_eq_true, reduceIte, xc_i, xc_j, xc_r, xc_n, List.nil_append, List.cons_append, Option.toList_some, Option.toList_none, nI_ltJ, nI_leJ, nI_eqJ, nI_ltz, nI_gez, nI_gtz, nI_lez, nI_eqz, m1_ltz, m1_gez, true_imp_iff, false_imp_iff, true_and, and_true, ne_eq, not_false_eq_true, not_true_eq_false, Nat.reduceEqDiff, Nat.reduceLT, Nat.reduceLeDiff, w11, w12, w15]
    with_reducible refine xm_go_blk b_X9_begin_22 k_X9_begin_22 ?_
    refine by_aload_n rfl ?_
    refine by_bipush cb_m3 ?_
    refine by_inv1 cn_142 lk_9_157 (by rw [xe_cnt]; decide) is_141 np_141 cn_141 (by first | exact rfl | assumption) (Nat.le_of_ble_eq_true rfl) ?_
    refine sp_xawait F1 T1.2.2.2.2.1 (by omega) ?_
    with_reducible refine xm_go_blk b_X9_begin_28 k_X9_begin_28 ?_
    refine by_iret ry_142 (by first | rfl | assumption) ?_
    have f2 : Fr [47] [(46, 8)] h1 (xm_sf (xm_si h1 47 st.length (-3)) 46 8 (.int (nI (st.length + 1)))) := Fr_sf (Fr_si Fr_rf (by simp)) (by simp)
    refine hG _ _ _ nh W eb (Fr_tr (fcp g1) f2 (by simp [sbR]) (by simp [sbT])) ⟨Fr_XF F1 f2 (by decide +kernel), cT1_push hpp T1 rfl rfl, cG_fr cg1 f2 z1 z2 z3 z4 z5 z11 y0 y15, by show 64 * nh ≤ tkE t p; omega, by simpa [xm_sf, xm_si, updV] using w13⟩ (Nat.le_refl _) (by show _ ≤ 5 * W + tkE t p; omega) ?_ ?_
    · rw [f2.2.2 _ _ (by simp), f1.2.2 _ _ (by simp)]
    · rw [f2.2.2 _ _ (by simp), f1.2.2 _ _ (by simp)]
  · have k3' : (tkK t p = 3) = False := eq_false k3
    -- a name
    have nam : (∀ c, wcV t p ≠ some c) → xm_go (XE sc) (xm_T (XE sc) (d + 3)) 142 post 63 [(2, .int (-1)), (1, .int (nI (tkF t p))), (0, .ref 46)] [] h1 := fun hc => by
      with_reducible refine xm_go_blk b_X9_begin_63 k_X9_begin_63 ?_
      refine by_aload_n rfl ?_
      refine by_inv0 cn_142 lk_9_160 (by rw [xe_cnt]; decide) is_153 np_153 cn_153 (by first | exact rfl | assumption) (Nat.le_of_ble_eq_true rfl) ?_
      refine sp_readName (d := d) F1 T1.2.2.2.1 ⟨w11, w12, w13, w14, w15⟩ (fun z => ?_) (fun w ew et en => ?_) (fun w n ew et en => ?_)
      · with_reducible refine xm_go_blk b_X9_begin_67 k_X9_begin_67 ?_
        refine by_iret ry_142 (by first | rfl | assumption) ?_
        refine bad 1 (tkF t p) h1 ([] : List Nat) ?_ g1 T1.2.2.2.2.2.2
        unfold sBeg
        rw [if_neg k3]
        rcases z with z | ⟨w, z, y⟩
        · rw [z]
        · exfalso
          obtain ⟨c, e⟩ := Option.isSome_iff_exists.mp y
          exact hc c (by unfold wcV; rw [z]; exact e)
      · with_reducible refine xm_go_blk b_X9_begin_67 k_X9_begin_67 ?_
        refine by_iret ry_142 (by first | rfl | assumption) ?_
        refine bad 2 (tkF t p) h1 ([] : List Nat) ?_ g1 T1.2.2.2.2.2.2
        unfold sBeg
        rw [if_neg k3, ew]
        simp only [et, en]
      · have lt := b4 (by rw [(wdO_W ew).1]; decide)
        with_reducible refine xm_go_blk b_X9_begin_67 k_X9_begin_67 ?_
        refine by_iret ry_142 (by first | rfl | assumption) ?_
        refine hG (G, st, tkE t p) (some n) h1 nh W ?_ (fcp g1) ⟨F1, T1, cg1, by show 64 * nh ≤ tkE t p; omega, w13⟩ (Nat.le_refl _) (by show _ ≤ 5 * W + tkE t p; omega) (f1.2.2 _ _ (by simp)) (f1.2.2 _ _ (by simp))
        unfold sBeg
        rw [if_neg k3, ew]
        simp only [et, en]
    cases ec : wcV t p with
    | none =>
      rw [ec] at w15
      have m13 : ((-1 : Int32) = nI 13) = False := eq_false (by decide)
      with_reducible refine xm_go_blk b_X9_begin_4 k_X9_begin_4 ?_
      refine by_aload_n rfl ?_
      refine by_getf cn_142 fl_9_107 (by first | exact rfl | assumption) (by decide) ?_
      simp (disch := first | exact Nat.ne_of_beq_eq_false rfl | exact rfl | omega) only [nI_add, xa_sub, xa_mul, pk_div, nm_mod, xa_shr, xa_and7, xa_and1, xa_and255, xa_by_and, nI_m1, Nat.add_sub_cancel, Nat.reducePow, Nat.zero_add, Nat.add_zero, Nat.reduceAdd, Nat.reduceMul, Nat.reduceSub, xf_same, xq_ff, xq_fo, xf_1, xf_2, xs_1, xs_2, xs_same, xq_so, xj_1, xj_2, xj_same, xq_jo, xq_sa1, xq_same, xq_other, upd_s, oI_n, oI_s, w11, w12, w15, k3', m13]
      refine by_istore_n (by rw [ml_142]; decide) ?_
      refine by_aload_n rfl ?_
      refine by_getf cn_142 fl_9_126 (by first | exact rfl | assumption) (by decide) ?_
      simp (disch := first | exact Nat.ne_of_beq_eq_false rfl | exact rfl | omega) only [nI_add, xa_sub, xa_mul, pk_div, nm_mod, xa_shr, xa_and7, xa_and1, xa_and255, xa_by_and, nI_m1, Nat.add_sub_cancel, Nat.reducePow, Nat.zero_add, Nat.add_zero, Nat.reduceAdd, Nat.reduceMul, Nat.reduceSub, xf_same, xq_ff, xq_fo, xf_1, xf_2, xs_1, xs_2, xs_same, xq_so, xj_1, xj_2, xj_same, xq_jo, xq_sa1, xq_same, xq_other, upd_s, oI_n, oI_s, w11, w12, w15, k3', m13]
      refine by_istore_n (by rw [ml_142]; decide) ?_
      refine by_aload_n rfl ?_
      refine by_getf cn_142 fl_9_100 (by first | exact rfl | assumption) (by decide) ?_
      refine by_iconst ci_3 ?_
      simp (disch := first | exact Nat.ne_of_beq_eq_false rfl | exact rfl | omega) only [nI_add, xa_sub, xa_mul, pk_div, nm_mod, xa_shr, xa_and7, xa_and1, xa_and255, xa_by_and, nI_m1, Nat.add_sub_cancel, Nat.reducePow, Nat.zero_add, Nat.add_zero, Nat.reduceAdd, Nat.reduceMul, Nat.reduceSub, xf_same, xq_ff, xq_fo, xf_1, xf_2, xs_1, xs_2, xs_same, xq_so, xj_1, xj_2, xj_same, xq_jo, xq_sa1, xq_same, xq_other, upd_s, oI_n, oI_s, w11, w12, w15, k3', m13]
      refine by_ic_ne 29 rfl ?_
      simp (disch := first | exact Nat.ne_of_beq_eq_false rfl | exact rfl | omega) only [nI_add, xa_sub, xa_mul, pk_div, nm_mod, xa_shr, xa_and7, xa_and1, xa_and255, xa_by_and, nI_m1, Nat.add_sub_cancel, Nat.reducePow, Nat.zero_add, Nat.add_zero, Nat.reduceAdd, Nat.reduceMul, Nat.reduceSub, xf_same, xq_ff, xq_fo, xf_1, xf_2, xs_1, xs_2, xs_same, xq_so, xj_1, xj_2, xj_same, xq_jo, xq_sa1, xq_same, xq_other, upd_s, oI_n, oI_s, xv_0, xv_1, xv_2, xv_3, xm_p1, xm_p2, xq_fp, xq_fn, List.filter_nil, Nat.reduceBEq, Bool.not_true, Bool.not_false, Bool.and_true, Bool.and_false, Bool.false_and, Bool.true_and, if_true, if_false, Bool.false_eq_true, reduceIte, xc_i, xc_j, xc_r, xc_n, List.nil_append, List.cons_append, Option.toList_some, Option.toList_none, nI_ltJ, nI_leJ, nI_eqJ, nI_ltz, nI_gez, nI_gtz, nI_lez, nI_eqz, m1_ltz, m1_gez, true_imp_iff, false_imp_iff, true_and, and_true, ne_eq, not_false_eq_true, not_true_eq_false, Nat.reduceEqDiff, Nat.reduceLT, Nat.reduceLeDiff, w11, w12, w15, k3', m13]
      with_reducible refine xm_go_blk b_X9_begin_29 k_X9_begin_29 ?_
      refine by_iload_n rfl ?_
      refine by_bipush cb_13 ?_
      refine by_ic_ne 59 rfl ?_
      simp (disch := first | exact Nat.ne_of_beq_eq_false rfl | exact rfl | omega) only [nI_add, xa_sub, xa_mul, pk_div, nm_mod, xa_shr, xa_and7, xa_and1, xa_and255, xa_by_and, nI_m1, Nat.add_sub_cancel, Nat.reducePow, Nat.zero_add, Nat.add_zero, Nat.reduceAdd, Nat.reduceMul, Nat.reduceSub, xf_same, xq_ff, xq_fo, xf_1, xf_2, xs_1, xs_2, xs_same, xq_so, xj_1, xj_2, xj_same, xq_jo, xq_sa1, xq_same, xq_other, upd_s, oI_n, oI_s, xv_0, xv_1, xv_2, xv_3, xm_p1, xm_p2, xq_fp, xq_fn, List.filter_nil, Nat.reduceBEq, Bool.not_true, Bool.not_false, Bool.and_true, Bool.and_false, Bool.false_and, Bool.true_and, if_true, if_false, Bool.false_eq_true, reduceIte, xc_i, xc_j, xc_r, xc_n, List.nil_append, List.cons_append, Option.toList_some, Option.toList_none, nI_ltJ, nI_leJ, nI_eqJ, nI_ltz, nI_gez, nI_gtz, nI_lez, nI_eqz, m1_ltz, m1_gez, true_imp_iff, false_imp_iff, true_and, and_true, ne_eq, not_false_eq_true, not_true_eq_false, Nat.reduceEqDiff, Nat.reduceLT, Nat.reduceLeDiff, w11, w12, w15, k3', m13]
      with_reducible refine xm_go_blk b_X9_begin_59 k_X9_begin_59 ?_
      refine by_iload_n rfl ?_
      refine by_if_ge 68 rfl ?_
      simp (disch := first | exact Nat.ne_of_beq_eq_false rfl | exact rfl | omega) only [nI_add, xa_sub, xa_mul, pk_div, nm_mod, xa_shr, xa_and7, xa_and1, xa_and255, xa_by_and, nI_m1, Nat.add_sub_cancel, Nat.reducePow, Nat.zero_add, Nat.add_zero, Nat.reduceAdd, Nat.reduceMul, Nat.reduceSub, xf_same, xq_ff, xq_fo, xf_1, xf_2, xs_1, xs_2, xs_same, xq_so, xj_1, xj_2, xj_same, xq_jo, xq_sa1, xq_same, xq_other, upd_s, oI_n, oI_s, xv_0, xv_1, xv_2, xv_3, xm_p1, xm_p2, xq_fp, xq_fn, List.filter_nil, Nat.reduceBEq, Bool.not_true, Bool.not_false, Bool.and_true, Bool.and_false, Bool.false_and, Bool.true_and, if_true, if_false, Bool.false_eq_true, reduceIte, xc_i, xc_j, xc_r, xc_n, List.nil_append, List.cons_append, Option.toList_some, Option.toList_none, nI_ltJ, nI_leJ, nI_eqJ, nI_ltz, nI_gez, nI_gtz, nI_lez, nI_eqz, m1_ltz, m1_gez, true_imp_iff, false_imp_iff, true_and, and_true, ne_eq, not_false_eq_true, not_true_eq_false, Nat.reduceEqDiff, Nat.reduceLT, Nat.reduceLeDiff, w11, w12, w15, k3', m13]
      exact nam (fun c z => by rw [ec] at z; cases z)
    | some c =>
      rw [ec] at w15
      obtain ⟨w, ew, et⟩ : ∃ w, wdO t p = some w ∧ tgI w = some c := by
        unfold wcV at ec
        cases e : wdO t p with
        | none => rw [e] at ec; cases ec
        | some w => rw [e] at ec; exact ⟨w, rfl, ec⟩
      have k5 := (wdO_W ew).1
      have lt := b4 (by rw [k5]; decide)
      have hc14 := tgI_lt et
      by_cases c13 : c = 13
      · subst c13
        with_reducible refine xm_go_blk b_X9_begin_4 k_X9_begin_4 ?_
        refine by_aload_n rfl ?_
        refine by_getf cn_142 fl_9_107 (by first | exact rfl | assumption) (by decide) ?_
        simp (disch := first | exact Nat.ne_of_beq_eq_false rfl | exact rfl | omega) only [nI_add, xa_sub, xa_mul, pk_div, nm_mod, xa_shr, xa_and7, xa_and1, xa_and255, xa_by_and, nI_m1, Nat.add_sub_cancel, Nat.reducePow, Nat.zero_add, Nat.add_zero, Nat.reduceAdd, Nat.reduceMul, Nat.reduceSub, xf_same, xq_ff, xq_fo, xf_1, xf_2, xs_1, xs_2, xs_same, xq_so, xj_1, xj_2, xj_same, xq_jo, xq_sa1, xq_same, xq_other, upd_s, oI_n, oI_s, w11, w12, w15, k3']
        refine by_istore_n (by rw [ml_142]; decide) ?_
        refine by_aload_n rfl ?_
        refine by_getf cn_142 fl_9_126 (by first | exact rfl | assumption) (by decide) ?_
        simp (disch := first | exact Nat.ne_of_beq_eq_false rfl | exact rfl | omega) only [nI_add, xa_sub, xa_mul, pk_div, nm_mod, xa_shr, xa_and7, xa_and1, xa_and255, xa_by_and, nI_m1, Nat.add_sub_cancel, Nat.reducePow, Nat.zero_add, Nat.add_zero, Nat.reduceAdd, Nat.reduceMul, Nat.reduceSub, xf_same, xq_ff, xq_fo, xf_1, xf_2, xs_1, xs_2, xs_same, xq_so, xj_1, xj_2, xj_same, xq_jo, xq_sa1, xq_same, xq_other, upd_s, oI_n, oI_s, w11, w12, w15, k3']
        refine by_istore_n (by rw [ml_142]; decide) ?_
        refine by_aload_n rfl ?_
        refine by_getf cn_142 fl_9_100 (by first | exact rfl | assumption) (by decide) ?_
        refine by_iconst ci_3 ?_
        simp (disch := first | exact Nat.ne_of_beq_eq_false rfl | exact rfl | omega) only [nI_add, xa_sub, xa_mul, pk_div, nm_mod, xa_shr, xa_and7, xa_and1, xa_and255, xa_by_and, nI_m1, Nat.add_sub_cancel, Nat.reducePow, Nat.zero_add, Nat.add_zero, Nat.reduceAdd, Nat.reduceMul, Nat.reduceSub, xf_same, xq_ff, xq_fo, xf_1, xf_2, xs_1, xs_2, xs_same, xq_so, xj_1, xj_2, xj_same, xq_jo, xq_sa1, xq_same, xq_other, upd_s, oI_n, oI_s, w11, w12, w15, k3']
        refine by_ic_ne 29 rfl ?_
        simp (disch := first | exact Nat.ne_of_beq_eq_false rfl | exact rfl | omega) only [nI_add, xa_sub, xa_mul, pk_div, nm_mod, xa_shr, xa_and7, xa_and1, xa_and255, xa_by_and, nI_m1, Nat.add_sub_cancel, Nat.reducePow, Nat.zero_add, Nat.add_zero, Nat.reduceAdd, Nat.reduceMul, Nat.reduceSub, xf_same, xq_ff, xq_fo, xf_1, xf_2, xs_1, xs_2, xs_same, xq_so, xj_1, xj_2, xj_same, xq_jo, xq_sa1, xq_same, xq_other, upd_s, oI_n, oI_s, xv_0, xv_1, xv_2, xv_3, xm_p1, xm_p2, xq_fp, xq_fn, List.filter_nil, Nat.reduceBEq, Bool.not_true, Bool.not_false, Bool.and_true, Bool.and_false, Bool.false_and, Bool.true_and, if_true, if_false, Bool.false_eq_true, reduceIte, xc_i, xc_j, xc_r, xc_n, List.nil_append, List.cons_append, Option.toList_some, Option.toList_none, nI_ltJ, nI_leJ, nI_eqJ, nI_ltz, nI_gez, nI_gtz, nI_lez, nI_eqz, m1_ltz, m1_gez, true_imp_iff, false_imp_iff, true_and, and_true, ne_eq, not_false_eq_true, not_true_eq_false, Nat.reduceEqDiff, Nat.reduceLT, Nat.reduceLeDiff, w11, w12, w15, k3']
        with_reducible refine xm_go_blk b_X9_begin_29 k_X9_begin_29 ?_
        refine by_iload_n rfl ?_
        refine by_bipush cb_13 ?_
        refine by_ic_ne 59 rfl ?_
        simp (disch := first | exact Nat.ne_of_beq_eq_false rfl | exact rfl | omega) only [nI_add, xa_sub, xa_mul, pk_div, nm_mod, xa_shr, xa_and7, xa_and1, xa_and255, xa_by_and, nI_m1, Nat.add_sub_cancel, Nat.reducePow, Nat.zero_add, Nat.add_zero, Nat.reduceAdd, Nat.reduceMul, Nat.reduceSub, xf_same, xq_ff, xq_fo, xf_1, xf_2, xs_1, xs_2, xs_same, xq_so, xj_1, xj_2, xj_same, xq_jo, xq_sa1, xq_same, xq_other, upd_s, oI_n, oI_s, xv_0, xv_1, xv_2, xv_3, xm_p1, xm_p2, xq_fp, xq_fn, List.filter_nil, Nat.reduceBEq, Bool.not_true, Bool.not_false, Bool.and_true, Bool.and_false, Bool.false_and, Bool.true_and, if_true, if_false, Bool.false_eq_true, reduceIte, xc_i, xc_j, xc_r, xc_n, List.nil_append, List.cons_append, Option.toList_some, Option.toList_none, nI_ltJ, nI_leJ, nI_eqJ, nI_ltz, nI_gez, nI_gtz, nI_lez, nI_eqz, m1_ltz, m1_gez, true_imp_iff, false_imp_iff, true_and, and_true, ne_eq, not_false_eq_true, not_true_eq_false, Nat.reduceEqDiff, Nat.reduceLT, Nat.reduceLeDiff, w11, w12, w15, k3']
        with_reducible refine xm_go_blk b_X9_begin_35 k_X9_begin_35 ?_
        refine by_aload_n rfl ?_
        refine by_inv0 cn_142 lk_9_97 (by rw [xe_cnt]; decide) is_147 np_147 cn_147 (by first | exact rfl | assumption) (Nat.le_of_ble_eq_true rfl) ?_
        refine nw h1 (tkE t p) _ T1 F1 g1 w13 b3 (fun h2 f2 w2 T2 F2 g2 => ?_)
        have cg2 : ckG h2 pp G nh := cG_fr cg1 f2 (by simp) (by simp) (by simp) (by simp) (by simp) (by simp) x0 x15
        obtain ⟨w21, w22, w23, w24, w25⟩ := w2
        with_reducible refine xm_go_blk b_X9_begin_39 k_X9_begin_39 ?_
        refine by_aload_n rfl ?_
        refine by_inv0 cn_142 lk_9_160 (by rw [xe_cnt]; decide) is_153 np_153 cn_153 (by first | exact rfl | assumption) (Nat.le_of_ble_eq_true rfl) ?_
        refine sp_readName (d := d) F2 T2.2.2.2.1 ⟨w21, w22, w23, w24, w25⟩ (fun z => ?_) (fun w2 ew2 et2 en => ?_) (fun w2 n ew2 et2 en => ?_)
        · with_reducible refine xm_go_blk b_X9_begin_43 k_X9_begin_43 ?_
          refine by_istore_n (by rw [ml_142]; decide) ?_
          refine by_iload_n rfl ?_
          refine by_if_ge 52 rfl ?_
          simp (disch := first | exact Nat.ne_of_beq_eq_false rfl | exact rfl | omega) only [nI_add, xa_sub, xa_mul, pk_div, nm_mod, xa_shr, xa_and7, xa_and1, xa_and255, xa_by_and, nI_m1, Nat.add_sub_cancel, Nat.reducePow, Nat.zero_add, Nat.add_zero, Nat.reduceAdd, Nat.reduceMul, Nat.reduceSub, xf_same, xq_ff, xq_fo, xf_1, xf_2, xs_1, xs_2, xs_same, xq_so, xj_1, xj_2, xj_same, xq_jo, xq_sa1, xq_same, xq_other, upd_s, oI_n, oI_s, xv_0, xv_1, xv_2, xv_3, xm_p1, xm_p2, xq_fp, xq_fn, List.filter_nil, Nat.reduceBEq, Bool.not_true, Bool.not_false, Bool.and_true, Bool.and_false, Bool.false_and, Bool.true_and, if_true, if_false, Bool.false_eq_true, reduceIte, xc_i, xc_j, xc_r, xc_n, List.nil_append, List.cons_append, Option.toList_some, Option.toList_none, nI_ltJ, nI_leJ, nI_eqJ, nI_ltz, nI_gez, nI_gtz, nI_lez, nI_eqz, m1_ltz, m1_gez, true_imp_iff, false_imp_iff, true_and, and_true, ne_eq, not_false_eq_true, not_true_eq_false, Nat.reduceEqDiff, Nat.reduceLT, Nat.reduceLeDiff]
          with_reducible refine xm_go_blk b_X9_begin_48 k_X9_begin_48 ?_
          refine by_iload_n rfl ?_
          refine by_goto 58 rfl ?_
          with_reducible refine xm_go_blk b_X9_begin_58 k_X9_begin_58 ?_
          refine by_iret ry_142 (by first | rfl | assumption) ?_
          refine bad 1 (tkF t (tkE t p)) h2 ([] : List Nat) ?_ g2 T2.2.2.2.2.2.2
          unfold sBeg
          rw [if_neg k3, ew]
          simp only [et, if_true]
          rcases z with z | ⟨w2, z, y⟩
          · rw [z]
          · rw [z]; simp only [y, if_true]
        · with_reducible refine xm_go_blk b_X9_begin_43 k_X9_begin_43 ?_
          refine by_istore_n (by rw [ml_142]; decide) ?_
          refine by_iload_n rfl ?_
          refine by_if_ge 52 rfl ?_
          simp (disch := first | exact Nat.ne_of_beq_eq_false rfl | exact rfl | omega) only [nI_add, xa_sub, xa_mul, pk_div, nm_mod, xa_shr, xa_and7, xa_and1, xa_and255, xa_by_and, nI_m1, Nat.add_sub_cancel, Nat.reducePow, Nat.zero_add, Nat.add_zero, Nat.reduceAdd, Nat.reduceMul, Nat.reduceSub, xf_same, xq_ff, xq_fo, xf_1, xf_2, xs_1, xs_2, xs_same, xq_so, xj_1, xj_2, xj_same, xq_jo, xq_sa1, xq_same, xq_other, upd_s, oI_n, oI_s, xv_0, xv_1, xv_2, xv_3, xm_p1, xm_p2, xq_fp, xq_fn, List.filter_nil, Nat.reduceBEq, Bool.not_true, Bool.not_false, Bool.and_true, Bool.and_false, Bool.false_and, Bool.true_and, if_true, if_false, Bool.false_eq_true, reduceIte, xc_i, xc_j, xc_r, xc_n, List.nil_append, List.cons_append, Option.toList_some, Option.toList_none, nI_ltJ, nI_leJ, nI_eqJ, nI_ltz, nI_gez, nI_gtz, nI_lez, nI_eqz, m1_ltz, m1_gez, true_imp_iff, false_imp_iff, true_and, and_true, ne_eq, not_false_eq_true, not_true_eq_false, Nat.reduceEqDiff, Nat.reduceLT, Nat.reduceLeDiff]
          with_reducible refine xm_go_blk b_X9_begin_48 k_X9_begin_48 ?_
          refine by_iload_n rfl ?_
          refine by_goto 58 rfl ?_
          with_reducible refine xm_go_blk b_X9_begin_58 k_X9_begin_58 ?_
          refine by_iret ry_142 (by first | rfl | assumption) ?_
          refine bad 2 (tkF t (tkE t p)) h2 ([] : List Nat) ?_ g2 T2.2.2.2.2.2.2
          unfold sBeg
          rw [if_neg k3, ew]
          simp only [et, if_true, ew2, et2, en]
          rfl
        · have k52 := (wdO_W ew2).1
          obtain ⟨n1, n2⟩ := hNL _ (nmF_mem en)
          have hn2 := hd.1
          have h5 := new5 hpt ew et k52
          have eb : sBeg t NL G st p = if 2000 < sCt G + (dfL (sC1 G) (sC2 G) n).length then .inl (3, tkF t p) else .inr ((sCp G (dfL (sC1 G) (sC2 G) n) (dfL (sC1 G) (sC2 G) n).length, st, tkE t (tkE t p)), some (sCt G + (dfL (sC1 G) (sC2 G) n).length - 1)) := by
            unfold sBeg
            rw [if_neg k3, ew]
            simp only [et, if_true, ew2, et2, en]
            rfl
          have n1' : n < sCt G := n1
          with_reducible refine xm_go_blk b_X9_begin_43 k_X9_begin_43 ?_
          refine by_istore_n (by rw [ml_142]; decide) ?_
          refine by_iload_n rfl ?_
          refine by_if_ge 52 rfl ?_
          simp (disch := first | exact Nat.ne_of_beq_eq_false rfl | exact rfl | omega) only [nI_add, xa_sub, xa_mul, pk_div, nm_mod, xa_shr, xa_and7, xa_and1, xa_and255, xa_by_and, nI_m1, Nat.add_sub_cancel, Nat.reducePow, Nat.zero_add, Nat.add_zero, Nat.reduceAdd, Nat.reduceMul, Nat.reduceSub, xf_same, xq_ff, xq_fo, xf_1, xf_2, xs_1, xs_2, xs_same, xq_so, xj_1, xj_2, xj_same, xq_jo, xq_sa1, xq_same, xq_other, upd_s, oI_n, oI_s, xv_0, xv_1, xv_2, xv_3, xm_p1, xm_p2, xq_fp, xq_fn, List.filter_nil, Nat.reduceBEq, Bool.not_true, Bool.not_false, Bool.and_true, Bool.and_false, Bool.false_and, Bool.true_and, if_true, if_false, Bool.false_eq_true, reduceIte, xc_i, xc_j, xc_r, xc_n, List.nil_append, List.cons_append, Option.toList_some, Option.toList_none, nI_ltJ, nI_leJ, nI_eqJ, nI_ltz, nI_gez, nI_gtz, nI_lez, nI_eqz, m1_ltz, m1_gez, true_imp_iff, false_imp_iff, true_and, and_true, ne_eq, not_false_eq_true, not_true_eq_false, Nat.reduceEqDiff, Nat.reduceLT, Nat.reduceLeDiff]
          with_reducible refine xm_go_blk b_X9_begin_52 k_X9_begin_52 ?_
          refine by_aload_n rfl ?_
          refine by_iload_n rfl ?_
          refine by_iload_n rfl ?_
          refine by_inv2 cn_142 lk_9_163 (by rw [xe_cnt]; decide) is_157 np_157 cn_157 (by first | exact rfl | assumption) (Nat.le_of_ble_eq_true rfl) ?_
          refine sp_renew (d := d) F2 hpp T2.2.1 T2.2.2.2.2.2.2 hW hd n1 n2 cg2 (fun big h3 f3 o3 a16 a0 => ?_) (fun big h3 f3 o3 cg3 a16 a0 => ?_)
          · rw [if_pos big] at eb
            with_reducible refine xm_go_blk b_X9_begin_58 k_X9_begin_58 ?_
            refine by_iret ry_142 (by first | rfl | assumption) ?_
            exact hB 3 (tkF t p) h3 (W + 1) eb (Fr_tr (fcp g2) f3 (by simp [sbR]) (by simp [sbT])) o3 (Nat.le_refl _) a16 a0
          · rw [if_neg big] at eb
            have qq : (46, 9) ∉ rnT pp ∧ (46, 10) ∉ rnT pp ∧ (46, 7) ∉ rnT pp ∧ (46, 8) ∉ rnT pp ∧ (1, 0) ∉ rnT pp ∧ (1, 1) ∉ rnT pp ∧ (2 : Nat) ∉ rnR pp ∧ 47 ∉ rnR pp ∧ 48 ∉ rnR pp ∧ 49 ∉ rnR pp ∧ 50 ∉ rnR pp ∧ 51 ∉ rnR pp := by rcases hpp with rfl | rfl <;> (repeat' apply And.intro) <;> decide
            obtain ⟨j1, j2, j3, j4, j5, j6, j7, j8, j9, j10, j11, j12⟩ := qq
            have qf : xt_fin.all (fun q => !((rnT pp).contains (q.1, q.2.1))) = true := by rcases hpp with rfl | rfl <;> decide +kernel
            obtain ⟨t1, t2, t3, t4, t5, t6, t7⟩ := T2
            with_reducible refine xm_go_blk b_X9_begin_58 k_X9_begin_58 ?_
            refine by_iret ry_142 (by first | rfl | assumption) ?_
            exact hG _ _ h3 nh (W + 1) eb (Fr_tr (fcp g2) f3 (by simp [sbR]) (by simp [sbT])) ⟨Fr_XF F2 f3 qf, ⟨by rw [f3.2.2 _ _ j1]; exact t1, by rw [f3.2.2 _ _ j2]; exact t2, rowIs_fr t3 f3 j7 j5 j6, nmX_fr t4 f3 j9 j10 j11 j12 j3, by rw [f3.2.2 _ _ j4]; exact t5, ckS_o t6 (fun j _ => by rw [f3.1 _ j8]), o3⟩, cg3, by show 64 * nh ≤ tkE t (tkE t p); omega, by rw [f3.2.2 _ _ r13]; exact w23⟩ (Nat.le_succ _) (by show 5 * (W + 1) + p ≤ 5 * W + tkE t (tkE t p); omega) (by rw [a16, f2.2.2 _ _ (by simp), f1.2.2 _ _ (by simp)]) (by rw [a0, f2.2.2 _ _ (by simp), f1.2.2 _ _ (by simp)])
      · have c13' : (c = 13) = False := eq_false c13
        obtain ⟨cg11, cg12, hx, cg13⟩ := cg1
        have hN := hd.1
        by_cases full : 2000 ≤ sCt G
        · with_reducible refine xm_go_blk b_X9_begin_4 k_X9_begin_4 ?_
          refine by_aload_n rfl ?_
          refine by_getf cn_142 fl_9_107 (by first | exact rfl | assumption) (by decide) ?_
          simp (disch := first | exact Nat.ne_of_beq_eq_false rfl | exact rfl | omega) only [nI_add, xa_sub, xa_mul, pk_div, nm_mod, xa_shr, xa_and7, xa_and1, xa_and255, xa_by_and, nI_m1, Nat.add_sub_cancel, Nat.reducePow, Nat.zero_add, Nat.add_zero, Nat.reduceAdd, Nat.reduceMul, Nat.reduceSub, xf_same, xq_ff, xq_fo, xf_1, xf_2, xs_1, xs_2, xs_same, xq_so, xj_1, xj_2, xj_same, xq_jo, xq_sa1, xq_same, xq_other, upd_s, oI_n, oI_s, w11, w12, w15, k3', c13', T1.2.1, cg11]
          refine by_istore_n (by rw [ml_142]; decide) ?_
          refine by_aload_n rfl ?_
          refine by_getf cn_142 fl_9_126 (by first | exact rfl | assumption) (by decide) ?_
          simp (disch := first | exact Nat.ne_of_beq_eq_false rfl | exact rfl | omega) only [nI_add, xa_sub, xa_mul, pk_div, nm_mod, xa_shr, xa_and7, xa_and1, xa_and255, xa_by_and, nI_m1, Nat.add_sub_cancel, Nat.reducePow, Nat.zero_add, Nat.add_zero, Nat.reduceAdd, Nat.reduceMul, Nat.reduceSub, xf_same, xq_ff, xq_fo, xf_1, xf_2, xs_1, xs_2, xs_same, xq_so, xj_1, xj_2, xj_same, xq_jo, xq_sa1, xq_same, xq_other, upd_s, oI_n, oI_s, w11, w12, w15, k3', c13', T1.2.1, cg11]
          refine by_istore_n (by rw [ml_142]; decide) ?_
          refine by_aload_n rfl ?_
          refine by_getf cn_142 fl_9_100 (by first | exact rfl | assumption) (by decide) ?_
          refine by_iconst ci_3 ?_
          simp (disch := first | exact Nat.ne_of_beq_eq_false rfl | exact rfl | omega) only [nI_add, xa_sub, xa_mul, pk_div, nm_mod, xa_shr, xa_and7, xa_and1, xa_and255, xa_by_and, nI_m1, Nat.add_sub_cancel, Nat.reducePow, Nat.zero_add, Nat.add_zero, Nat.reduceAdd, Nat.reduceMul, Nat.reduceSub, xf_same, xq_ff, xq_fo, xf_1, xf_2, xs_1, xs_2, xs_same, xq_so, xj_1, xj_2, xj_same, xq_jo, xq_sa1, xq_same, xq_other, upd_s, oI_n, oI_s, w11, w12, w15, k3', c13', T1.2.1, cg11]
          refine by_ic_ne 29 rfl ?_
          simp (disch := first | exact Nat.ne_of_beq_eq_false rfl | exact rfl | omega) only [nI_add, xa_sub, xa_mul, pk_div, nm_mod, xa_shr, xa_and7, xa_and1, xa_and255, xa_by_and, nI_m1, Nat.add_sub_cancel, Nat.reducePow, Nat.zero_add, Nat.add_zero, Nat.reduceAdd, Nat.reduceMul, Nat.reduceSub, xf_same, xq_ff, xq_fo, xf_1, xf_2, xs_1, xs_2, xs_same, xq_so, xj_1, xj_2, xj_same, xq_jo, xq_sa1, xq_same, xq_other, upd_s, oI_n, oI_s, xv_0, xv_1, xv_2, xv_3, xm_p1, xm_p2, xq_fp, xq_fn, List.filter_nil, Nat.reduceBEq, Bool.not_true, Bool.not_false, Bool.and_true, Bool.and_false, Bool.false_and, Bool.true_and, if_true, if_false, Bool.false_eq_true, reduceIte, xc_i, xc_j, xc_r, xc_n, List.nil_append, List.cons_append, Option.toList_some, Option.toList_none, nI_ltJ, nI_leJ, nI_eqJ, nI_ltz, nI_gez, nI_gtz, nI_lez, nI_eqz, m1_ltz, m1_gez, true_imp_iff, false_imp_iff, true_and, and_true, ne_eq, not_false_eq_true, not_true_eq_false, Nat.reduceEqDiff, Nat.reduceLT, Nat.reduceLeDiff, w11, w12, w15, k3', c13', T1.2.1, cg11]
          with_reducible refine xm_go_blk b_X9_begin_29 k_X9_begin_29 ?_
          refine by_iload_n rfl ?_
          refine by_bipush cb_13 ?_
          refine by_ic_ne 59 rfl ?_
          simp (disch := first | exact Nat.ne_of_beq_eq_false rfl | exact rfl | omega) only [nI_add, xa_sub, xa_mul, pk_div, nm_mod, xa_shr, xa_and7, xa_and1, xa_and255, xa_by_and, nI_m1, Nat.add_sub_cancel, Nat.reducePow, Nat.zero_add, Nat.add_zero, Nat.reduceAdd, Nat.reduceMul, Nat.reduceSub, xf_same, xq_ff, xq_fo, xf_1, xf_2, xs_1, xs_2, xs_same, xq_so, xj_1, xj_2, xj_same, xq_jo, xq_sa1, xq_same, xq_other, upd_s, oI_n, oI_s, xv_0, xv_1, xv_2, xv_3, xm_p1, xm_p2, xq_fp, xq_fn, List.filter_nil, Nat.reduceBEq, Bool.not_true, Bool.not_false, Bool.and_true, Bool.and_false, Bool.false_and, Bool.true_and, if_true, if_false, Bool.false_eq_true, reduceIte, xc_i, xc_j, xc_r, xc_n, List.nil_append, List.cons_append, Option.toList_some, Option.toList_none, nI_ltJ, nI_leJ, nI_eqJ, nI_ltz, nI_gez, nI_gtz, nI_lez, nI_eqz, m1_ltz, m1_gez, true_imp_iff, false_imp_iff, true_and, and_true, ne_eq, not_false_eq_true, not_true_eq_false, Nat.reduceEqDiff, Nat.reduceLT, Nat.reduceLeDiff, w11, w12, w15, k3', c13', T1.2.1, cg11]
          with_reducible refine xm_go_blk b_X9_begin_59 k_X9_begin_59 ?_
          refine by_iload_n rfl ?_
          refine by_if_ge 68 rfl ?_
          simp (disch := first | exact Nat.ne_of_beq_eq_false rfl | exact rfl | omega) only [nI_add, xa_sub, xa_mul, pk_div, nm_mod, xa_shr, xa_and7, xa_and1, xa_and255, xa_by_and, nI_m1, Nat.add_sub_cancel, Nat.reducePow, Nat.zero_add, Nat.add_zero, Nat.reduceAdd, Nat.reduceMul, Nat.reduceSub, xf_same, xq_ff, xq_fo, xf_1, xf_2, xs_1, xs_2, xs_same, xq_so, xj_1, xj_2, xj_same, xq_jo, xq_sa1, xq_same, xq_other, upd_s, oI_n, oI_s, xv_0, xv_1, xv_2, xv_3, xm_p1, xm_p2, xq_fp, xq_fn, List.filter_nil, Nat.reduceBEq, Bool.not_true, Bool.not_false, Bool.and_true, Bool.and_false, Bool.false_and, Bool.true_and, if_true, if_false, Bool.false_eq_true, reduceIte, xc_i, xc_j, xc_r, xc_n, List.nil_append, List.cons_append, Option.toList_some, Option.toList_none, nI_ltJ, nI_leJ, nI_eqJ, nI_ltz, nI_gez, nI_gtz, nI_lez, nI_eqz, m1_ltz, m1_gez, true_imp_iff, false_imp_iff, true_and, and_true, ne_eq, not_false_eq_true, not_true_eq_false, Nat.reduceEqDiff, Nat.reduceLT, Nat.reduceLeDiff, w11, w12, w15, k3', c13', T1.2.1, cg11]
          with_reducible refine xm_go_blk b_X9_begin_68 k_X9_begin_68 ?_
          refine by_aload_n rfl ?_
          refine by_getf cn_142 fl_9_36 (by first | exact rfl | assumption) (by decide) ?_
          simp (disch := first | exact Nat.ne_of_beq_eq_false rfl | exact rfl | omega) only [nI_add, xa_sub, xa_mul, pk_div, nm_mod, xa_shr, xa_and7, xa_and1, xa_and255, xa_by_and, nI_m1, Nat.add_sub_cancel, Nat.reducePow, Nat.zero_add, Nat.add_zero, Nat.reduceAdd, Nat.reduceMul, Nat.reduceSub, xf_same, xq_ff, xq_fo, xf_1, xf_2, xs_1, xs_2, xs_same, xq_so, xj_1, xj_2, xj_same, xq_jo, xq_sa1, xq_same, xq_other, upd_s, oI_n, oI_s, w11, w12, w15, k3', c13', T1.2.1, cg11]
          refine by_getf cn_142 fl_9_166 (by first | exact rfl | assumption | exact ps_0 hpp) (by decide) ?_
          refine by_sipush cs_2000 ?_
          simp (disch := first | exact Nat.ne_of_beq_eq_false rfl | exact rfl | omega) only [nI_add, xa_sub, xa_mul, pk_div, nm_mod, xa_shr, xa_and7, xa_and1, xa_and255, xa_by_and, nI_m1, Nat.add_sub_cancel, Nat.reducePow, Nat.zero_add, Nat.add_zero, Nat.reduceAdd, Nat.reduceMul, Nat.reduceSub, xf_same, xq_ff, xq_fo, xf_1, xf_2, xs_1, xs_2, xs_same, xq_so, xj_1, xj_2, xj_same, xq_jo, xq_sa1, xq_same, xq_other, upd_s, oI_n, oI_s, w11, w12, w15, k3', c13', T1.2.1, cg11]
          refine by_ic_lt 91 rfl ?_
          simp (disch := first | exact Nat.ne_of_beq_eq_false rfl | exact rfl | omega) only [nI_add, xa_sub, xa_mul, pk_div, nm_mod, xa_shr, xa_and7, xa_and1, xa_and255, xa_by_and, nI_m1, Nat.add_sub_cancel, Nat.reducePow, Nat.zero_add, Nat.add_zero, Nat.reduceAdd, Nat.reduceMul, Nat.reduceSub, xf_same, xq_ff, xq_fo, xf_1, xf_2, xs_1, xs_2, xs_same, xq_so, xj_1, xj_2, xj_same, xq_jo, xq_sa1, xq_same, xq_other, upd_s, oI_n, oI_s, xv_0, xv_1, xv_2, xv_3, xm_p1, xm_p2, xq_fp, xq_fn, List.filter_nil, Nat.reduceBEq, Bool.not_true, Bool.not_false, Bool.and_true, Bool.and_false, Bool.false_and, Bool.true_and, if_true, if_false, Bool.false_eq_true, reduceIte, xc_i, xc_j, xc_r, xc_n, List.nil_append, List.cons_append, Option.toList_some, Option.toList_none, nI_ltJ, nI_leJ, nI_eqJ, nI_ltz, nI_gez, nI_gtz, nI_lez, nI_eqz, m1_ltz, m1_gez, true_imp_iff, false_imp_iff, true_and, and_true, ne_eq, not_false_eq_true, not_true_eq_false, Nat.reduceEqDiff, Nat.reduceLT, Nat.reduceLeDiff, w11, w12, w15, k3', c13', T1.2.1, cg11]
          refine ⟨fun c => absurd c (by omega), fun c68 => ?_⟩
          with_reducible refine xm_go_blk b_X9_begin_81 k_X9_begin_81 ?_
          refine by_aload_n rfl ?_
          refine by_iconst ci_3 ?_
          refine by_aload_n rfl ?_
          refine by_getf cn_142 fl_9_107 (by first | exact rfl | assumption) (by decide) ?_
          simp (disch := first | exact Nat.ne_of_beq_eq_false rfl | exact rfl | omega) only [nI_add, xa_sub, xa_mul, pk_div, nm_mod, xa_shr, xa_and7, xa_and1, xa_and255, xa_by_and, nI_m1, Nat.add_sub_cancel, Nat.reducePow, Nat.zero_add, Nat.add_zero, Nat.reduceAdd, Nat.reduceMul, Nat.reduceSub, xf_same, xq_ff, xq_fo, xf_1, xf_2, xs_1, xs_2, xs_same, xq_so, xj_1, xj_2, xj_same, xq_jo, xq_sa1, xq_same, xq_other, upd_s, oI_n, oI_s, xv_0, xv_1, xv_2, xv_3, xm_p1, xm_p2, xq_fp, xq_fn, List.filter_nil, Nat.reduceBEq, Bool.not_true, Bool.not_false, Bool.and_true, Bool.and_false, Bool.false_and, Bool.true_and, if_true, if_false, Bool.false_eq_true, reduceIte, xc_i, xc_j, xc_r, xc_n, List.nil_append, List.cons_append, Option.toList_some, Option.toList_none, w11, w12, w15, k3', c13', T1.2.1, cg11]
          refine by_inv2 cn_142 lk_9_110 (by rw [xe_cnt]; decide) is_156 np_156 cn_156 (by first | exact rfl | assumption) (Nat.le_of_ble_eq_true rfl) ?_
          refine sp_refuse ?_
          with_reducible refine xm_go_blk b_X9_begin_90 k_X9_begin_90 ?_
          refine by_iret ry_142 (by first | rfl | assumption) ?_
          refine bad 3 (tkF t p) h1 ([] : List Nat) ?_ g1 T1.2.2.2.2.2.2
          unfold sBeg
          rw [if_neg k3, ew]
          simp only [et, c13, if_false, full, if_true]
        · with_reducible refine xm_go_blk b_X9_begin_4 k_X9_begin_4 ?_
          refine by_aload_n rfl ?_
          refine by_getf cn_142 fl_9_107 (by first | exact rfl | assumption) (by decide) ?_
          simp (disch := first | exact Nat.ne_of_beq_eq_false rfl | exact rfl | omega) only [nI_add, xa_sub, xa_mul, pk_div, nm_mod, xa_shr, xa_and7, xa_and1, xa_and255, xa_by_and, nI_m1, Nat.add_sub_cancel, Nat.reducePow, Nat.zero_add, Nat.add_zero, Nat.reduceAdd, Nat.reduceMul, Nat.reduceSub, xf_same, xq_ff, xq_fo, xf_1, xf_2, xs_1, xs_2, xs_same, xq_so, xj_1, xj_2, xj_same, xq_jo, xq_sa1, xq_same, xq_other, upd_s, oI_n, oI_s, w11, w12, w15, k3', c13', T1.2.1, cg11]
          refine by_istore_n (by rw [ml_142]; decide) ?_
          refine by_aload_n rfl ?_
          refine by_getf cn_142 fl_9_126 (by first | exact rfl | assumption) (by decide) ?_
          simp (disch := first | exact Nat.ne_of_beq_eq_false rfl | exact rfl | omega) only [nI_add, xa_sub, xa_mul, pk_div, nm_mod, xa_shr, xa_and7, xa_and1, xa_and255, xa_by_and, nI_m1, Nat.add_sub_cancel, Nat.reducePow, Nat.zero_add, Nat.add_zero, Nat.reduceAdd, Nat.reduceMul, Nat.reduceSub, xf_same, xq_ff, xq_fo, xf_1, xf_2, xs_1, xs_2, xs_same, xq_so, xj_1, xj_2, xj_same, xq_jo, xq_sa1, xq_same, xq_other, upd_s, oI_n, oI_s, w11, w12, w15, k3', c13', T1.2.1, cg11]
          refine by_istore_n (by rw [ml_142]; decide) ?_
          refine by_aload_n rfl ?_
          refine by_getf cn_142 fl_9_100 (by first | exact rfl | assumption) (by decide) ?_
          refine by_iconst ci_3 ?_
          simp (disch := first | exact Nat.ne_of_beq_eq_false rfl | exact rfl | omega) only [nI_add, xa_sub, xa_mul, pk_div, nm_mod, xa_shr, xa_and7, xa_and1, xa_and255, xa_by_and, nI_m1, Nat.add_sub_cancel, Nat.reducePow, Nat.zero_add, Nat.add_zero, Nat.reduceAdd, Nat.reduceMul, Nat.reduceSub, xf_same, xq_ff, xq_fo, xf_1, xf_2, xs_1, xs_2, xs_same, xq_so, xj_1, xj_2, xj_same, xq_jo, xq_sa1, xq_same, xq_other, upd_s, oI_n, oI_s, w11, w12, w15, k3', c13', T1.2.1, cg11]
          refine by_ic_ne 29 rfl ?_
          simp (disch := first | exact Nat.ne_of_beq_eq_false rfl | exact rfl | omega) only [nI_add, xa_sub, xa_mul, pk_div, nm_mod, xa_shr, xa_and7, xa_and1, xa_and255, xa_by_and, nI_m1, Nat.add_sub_cancel, Nat.reducePow, Nat.zero_add, Nat.add_zero, Nat.reduceAdd, Nat.reduceMul, Nat.reduceSub, xf_same, xq_ff, xq_fo, xf_1, xf_2, xs_1, xs_2, xs_same, xq_so, xj_1, xj_2, xj_same, xq_jo, xq_sa1, xq_same, xq_other, upd_s, oI_n, oI_s, xv_0, xv_1, xv_2, xv_3, xm_p1, xm_p2, xq_fp, xq_fn, List.filter_nil, Nat.reduceBEq, Bool.not_true, Bool.not_false, Bool.and_true, Bool.and_false, Bool.false_and, Bool.true_and, if_true, if_false, Bool.false_eq_true, reduceIte, xc_i, xc_j, xc_r, xc_n, List.nil_append, List.cons_append, Option.toList_some, Option.toList_none, nI_ltJ, nI_leJ, nI_eqJ, nI_ltz, nI_gez, nI_gtz, nI_lez, nI_eqz, m1_ltz, m1_gez, true_imp_iff, false_imp_iff, true_and, and_true, ne_eq, not_false_eq_true, not_true_eq_false, Nat.reduceEqDiff, Nat.reduceLT, Nat.reduceLeDiff, w11, w12, w15, k3', c13', T1.2.1, cg11]
          with_reducible refine xm_go_blk b_X9_begin_29 k_X9_begin_29 ?_
          refine by_iload_n rfl ?_
          refine by_bipush cb_13 ?_
          refine by_ic_ne 59 rfl ?_
          simp (disch := first | exact Nat.ne_of_beq_eq_false rfl | exact rfl | omega) only [nI_add, xa_sub, xa_mul, pk_div, nm_mod, xa_shr, xa_and7, xa_and1, xa_and255, xa_by_and, nI_m1, Nat.add_sub_cancel, Nat.reducePow, Nat.zero_add, Nat.add_zero, Nat.reduceAdd, Nat.reduceMul, Nat.reduceSub, xf_same, xq_ff, xq_fo, xf_1, xf_2, xs_1, xs_2, xs_same, xq_so, xj_1, xj_2, xj_same, xq_jo, xq_sa1, xq_same, xq_other, upd_s, oI_n, oI_s, xv_0, xv_1, xv_2, xv_3, xm_p1, xm_p2, xq_fp, xq_fn, List.filter_nil, Nat.reduceBEq, Bool.not_true, Bool.not_false, Bool.and_true, Bool.and_false, Bool.false_and, Bool.true_and, if_true, if_false, Bool.false_eq_true, reduceIte, xc_i, xc_j, xc_r, xc_n, List.nil_append, List.cons_append, Option.toList_some, Option.toList_none, nI_ltJ, nI_leJ, nI_eqJ, nI_ltz, nI_gez, nI_gtz, nI_lez, nI_eqz, m1_ltz, m1_gez, true_imp_iff, false_imp_iff, true_and, and_true, ne_eq, not_false_eq_true, not_true_eq_false, Nat.reduceEqDiff, Nat.reduceLT, Nat.reduceLeDiff, w11, w12, w15, k3', c13', T1.2.1, cg11]
          with_reducible refine xm_go_blk b_X9_begin_59 k_X9_begin_59 ?_
          refine by_iload_n rfl ?_
          refine by_if_ge 68 rfl ?_
          simp (disch := first | exact Nat.ne_of_beq_eq_false rfl | exact rfl | omega) only [nI_add, xa_sub, xa_mul, pk_div, nm_mod, xa_shr, xa_and7, xa_and1, xa_and255, xa_by_and, nI_m1, Nat.add_sub_cancel, Nat.reducePow, Nat.zero_add, Nat.add_zero, Nat.reduceAdd, Nat.reduceMul, Nat.reduceSub, xf_same, xq_ff, xq_fo, xf_1, xf_2, xs_1, xs_2, xs_same, xq_so, xj_1, xj_2, xj_same, xq_jo, xq_sa1, xq_same, xq_other, upd_s, oI_n, oI_s, xv_0, xv_1, xv_2, xv_3, xm_p1, xm_p2, xq_fp, xq_fn, List.filter_nil, Nat.reduceBEq, Bool.not_true, Bool.not_false, Bool.and_true, Bool.and_false, Bool.false_and, Bool.true_and, if_true, if_false, Bool.false_eq_true, reduceIte, xc_i, xc_j, xc_r, xc_n, List.nil_append, List.cons_append, Option.toList_some, Option.toList_none, nI_ltJ, nI_leJ, nI_eqJ, nI_ltz, nI_gez, nI_gtz, nI_lez, nI_eqz, m1_ltz, m1_gez, true_imp_iff, false_imp_iff, true_and, and_true, ne_eq, not_false_eq_true, not_true_eq_false, Nat.reduceEqDiff, Nat.reduceLT, Nat.reduceLeDiff, w11, w12, w15, k3', c13', T1.2.1, cg11]
          with_reducible refine xm_go_blk b_X9_begin_68 k_X9_begin_68 ?_
          refine by_aload_n rfl ?_
          refine by_getf cn_142 fl_9_36 (by first | exact rfl | assumption) (by decide) ?_
          simp (disch := first | exact Nat.ne_of_beq_eq_false rfl | exact rfl | omega) only [nI_add, xa_sub, xa_mul, pk_div, nm_mod, xa_shr, xa_and7, xa_and1, xa_and255, xa_by_and, nI_m1, Nat.add_sub_cancel, Nat.reducePow, Nat.zero_add, Nat.add_zero, Nat.reduceAdd, Nat.reduceMul, Nat.reduceSub, xf_same, xq_ff, xq_fo, xf_1, xf_2, xs_1, xs_2, xs_same, xq_so, xj_1, xj_2, xj_same, xq_jo, xq_sa1, xq_same, xq_other, upd_s, oI_n, oI_s, w11, w12, w15, k3', c13', T1.2.1, cg11]
          refine by_getf cn_142 fl_9_166 (by first | exact rfl | assumption | exact ps_0 hpp) (by decide) ?_
          refine by_sipush cs_2000 ?_
          simp (disch := first | exact Nat.ne_of_beq_eq_false rfl | exact rfl | omega) only [nI_add, xa_sub, xa_mul, pk_div, nm_mod, xa_shr, xa_and7, xa_and1, xa_and255, xa_by_and, nI_m1, Nat.add_sub_cancel, Nat.reducePow, Nat.zero_add, Nat.add_zero, Nat.reduceAdd, Nat.reduceMul, Nat.reduceSub, xf_same, xq_ff, xq_fo, xf_1, xf_2, xs_1, xs_2, xs_same, xq_so, xj_1, xj_2, xj_same, xq_jo, xq_sa1, xq_same, xq_other, upd_s, oI_n, oI_s, w11, w12, w15, k3', c13', T1.2.1, cg11]
          refine by_ic_lt 91 rfl ?_
          simp (disch := first | exact Nat.ne_of_beq_eq_false rfl | exact rfl | omega) only [nI_add, xa_sub, xa_mul, pk_div, nm_mod, xa_shr, xa_and7, xa_and1, xa_and255, xa_by_and, nI_m1, Nat.add_sub_cancel, Nat.reducePow, Nat.zero_add, Nat.add_zero, Nat.reduceAdd, Nat.reduceMul, Nat.reduceSub, xf_same, xq_ff, xq_fo, xf_1, xf_2, xs_1, xs_2, xs_same, xq_so, xj_1, xj_2, xj_same, xq_jo, xq_sa1, xq_same, xq_other, upd_s, oI_n, oI_s, xv_0, xv_1, xv_2, xv_3, xm_p1, xm_p2, xq_fp, xq_fn, List.filter_nil, Nat.reduceBEq, Bool.not_true, Bool.not_false, Bool.and_true, Bool.and_false, Bool.false_and, Bool.true_and, if_true, if_false, Bool.false_eq_true, reduceIte, xc_i, xc_j, xc_r, xc_n, List.nil_append, List.cons_append, Option.toList_some, Option.toList_none, nI_ltJ, nI_leJ, nI_eqJ, nI_ltz, nI_gez, nI_gtz, nI_lez, nI_eqz, m1_ltz, m1_gez, true_imp_iff, false_imp_iff, true_and, and_true, ne_eq, not_false_eq_true, not_true_eq_false, Nat.reduceEqDiff, Nat.reduceLT, Nat.reduceLeDiff, w11, w12, w15, k3', c13', T1.2.1, cg11]
          refine ⟨fun c68 => ?_, fun c => absurd (by omega) c⟩
          with_reducible refine xm_go_blk b_X9_begin_91 k_X9_begin_91 ?_
          refine by_aload_n rfl ?_
          refine by_getf cn_142 fl_9_36 (by first | exact rfl | assumption) (by decide) ?_
          refine by_iload_n rfl ?_
          simp (disch := first | exact Nat.ne_of_beq_eq_false rfl | exact rfl | omega) only [nI_add, xa_sub, xa_mul, pk_div, nm_mod, xa_shr, xa_and7, xa_and1, xa_and255, xa_by_and, nI_m1, Nat.add_sub_cancel, Nat.reducePow, Nat.zero_add, Nat.add_zero, Nat.reduceAdd, Nat.reduceMul, Nat.reduceSub, xf_same, xq_ff, xq_fo, xf_1, xf_2, xs_1, xs_2, xs_same, xq_so, xj_1, xj_2, xj_same, xq_jo, xq_sa1, xq_same, xq_other, upd_s, oI_n, oI_s, xv_0, xv_1, xv_2, xv_3, xm_p1, xm_p2, xq_fp, xq_fn, List.filter_nil, Nat.reduceBEq, Bool.not_true, Bool.not_false, Bool.and_true, Bool.and_false, Bool.false_and, Bool.true_and, if_true, if_false, Bool.false_eq_true, reduceIte, xc_i, xc_j, xc_r, xc_n, List.nil_append, List.cons_append, Option.toList_some, Option.toList_none, w11, w12, w15, k3', c13', T1.2.1, cg11]
          refine by_inv1 cn_142 lk_9_169 (by rw [xe_cnt]; decide) is_98 np_98 cn_98 (by first | exact rfl | assumption | exact ps_0 hpp) (Nat.le_of_ble_eq_true rfl) ?_
          refine sp_padd F1 hpp (by omega) cg11 (fun h2 f2 c2 r1 r2 r3 r4 r5 ro => ?_)
          have f2' : Fr (scpR pp) (scpT pp) h1 h2 := Fr_mo f2 (by simp) (by simp)
          have F2 : XF h2 := Fr_XF F1 f2' (cp_fin hpp)
          have T2 := cT1_fr hpp T1 f2'
          have g2 : Fr (scpR pp) (scpT pp) h h2 := Fr_tr g1 f2' (fun _ z => z) (fun _ z => z)
          have cg2 : cG0 h2 pp G hx nh := cG0_k cg13 (fun m hm => ro _ m (by simp) (by omega)) (fun m hm => ro _ m (by simp) (by omega)) (fun m hm => ro _ m (by simp) (by omega)) (fun m hm => ro _ m (by simp) (by omega)) (fun m hm => ro _ m (by simp) (by omega)) (fun j _ => by rw [f2.1 _ p11])
          have h15 : h2.2.2 pp 15 = .int (nI nh) := by rw [f2.2.2 _ _ u15]; exact cg12
          have w13' : h2.2.2 46 13 = .int (nI (tkE t p)) := by rw [f2.2.2 _ _ u13]; exact w13
          have s16 : h2.2.2 46 16 = h.2.2 46 16 := by rw [f2.2.2 _ _ u16, f1.2.2 _ _ (by simp)]
          have s0 : h2.2.2 46 0 = h.2.2 46 0 := by rw [f2.2.2 _ _ u0, f1.2.2 _ _ (by simp)]
          by_cases c6 : c ≤ 6
          · have eb : sBeg t NL G st p = .inr ((sAdd G c 0 0 (fun _ => 0), some (sCt G) :: st, tkE t p), none) := by
              unfold sBeg
              rw [if_neg k3, ew]
              simp only [et, c13, if_false, full, c6, if_true]
            with_reducible refine xm_go_blk b_X9_begin_99 k_X9_begin_99 ?_
            refine by_istore_n (by rw [ml_142]; decide) ?_
            refine by_iload_n rfl ?_
            refine by_bipush cb_6 ?_
            refine by_ic_gt 112 rfl ?_
            simp (disch := first | exact Nat.ne_of_beq_eq_false rfl | exact rfl | omega) only [nI_add, xa_sub, xa_mul, pk_div, nm_mod, xa_shr, xa_and7, xa_and1, xa_and255, xa_by_and, nI_m1, Nat.add_sub_cancel, Nat.reducePow, Nat.zero_add, Nat.add_zero, Nat.reduceAdd, Nat.reduceMul, Nat.reduceSub, xf_same, xq_ff, xq_fo, xf_1, xf_2, xs_1, xs_2, xs_same, xq_so, xj_1, xj_2, xj_same, xq_jo, xq_sa1, xq_same, xq_other, upd_s, oI_n, oI_s, xv_0, xv_1, xv_2, xv_3, xm_p1, xm_p2, xq_fp, xq_fn, List.filter_nil, Nat.reduceBEq, Bool.not_true, Bool.not_false, Bool.and_true, Bool.and_false, Bool.false_and, Bool.true_and, if_true, if_false, Bool.false_eq_true, reduceIte, xc_i, xc_j, xc_r, xc_n, List.nil_append, List.cons_append, Option.toList_some, Option.toList_none, nI_ltJ, nI_leJ, nI_eqJ, nI_ltz, nI_gez, nI_gtz, nI_lez, nI_eqz, m1_ltz, m1_gez, true_imp_iff, false_imp_iff, true_and, and_true, ne_eq, not_false_eq_true, not_true_eq_false, Nat.reduceEqDiff, Nat.reduceLT, Nat.reduceLeDiff]
            refine ⟨fun c => absurd c (by omega), fun c99 => ?_⟩
            with_reducible refine xm_go_blk b_X9_begin_106 k_X9_begin_106 ?_
            refine by_aload_n rfl ?_
            refine by_iload_n rfl ?_
            refine by_inv1 cn_142 lk_9_157 (by rw [xe_cnt]; decide) is_141 np_141 cn_141 (by first | exact rfl | assumption) (Nat.le_of_ble_eq_true rfl) ?_
            refine sp_xawait F2 T2.2.2.2.2.1 (by omega) ?_
            with_reducible refine xm_go_blk b_X9_begin_111 k_X9_begin_111 ?_
            refine by_iret ry_142 (by first | rfl | assumption) ?_
            have f3 : Fr [47] [(46, 8)] h2 (xm_sf (xm_si h2 47 st.length (nI (sCt G))) 46 8 (.int (nI (st.length + 1)))) := Fr_sf (Fr_si Fr_rf (by simp)) (by simp)
            refine hG _ _ _ nh W eb (Fr_tr (fcp g2) f3 (by simp [sbR]) (by simp [sbT])) ⟨Fr_XF F2 f3 (by decide +kernel), cT1_push (o := some (sCt G)) hpp T2 rfl rfl, cG_fr ⟨c2, h15, _, cG0_new (y := 0) cg2 (Nat.le_refl _) r1 r2 r3 r5 (fun _ => r4) (fun z => by omega)⟩ f3 z1 z2 z3 z4 z5 z11 y0 y15, by show 64 * nh ≤ tkE t p; omega, by rw [f3.2.2 _ _ (by simp)]; exact w13'⟩ (Nat.le_refl _) (by show _ ≤ 5 * W + tkE t p; omega) (by rw [f3.2.2 _ _ (by simp)]; exact s16) (by rw [f3.2.2 _ _ (by simp)]; exact s0)
          · by_cases c9 : c ≤ 9
            · have eb : sBeg t NL G st p = .inr ((sAdd G c 0 0 (fun _ => 0), st, tkE t p), some (sCt G)) := by
                unfold sBeg
                rw [if_neg k3, ew]
                simp only [et, c13, if_false, full, c6, c9, if_true]
              with_reducible refine xm_go_blk b_X9_begin_99 k_X9_begin_99 ?_
              refine by_istore_n (by rw [ml_142]; decide) ?_
              refine by_iload_n rfl ?_
              refine by_bipush cb_6 ?_
              refine by_ic_gt 112 rfl ?_
              simp (disch := first | exact Nat.ne_of_beq_eq_false rfl | exact rfl | omega) only [nI_add, xa_sub, xa_mul, pk_div, nm_mod, xa_shr, xa_and7, xa_and1, xa_and255, xa_by_and, nI_m1, Nat.add_sub_cancel, Nat.reducePow, Nat.zero_add, Nat.add_zero, Nat.reduceAdd, Nat.reduceMul, Nat.reduceSub, xf_same, xq_ff, xq_fo, xf_1, xf_2, xs_1, xs_2, xs_same, xq_so, xj_1, xj_2, xj_same, xq_jo, xq_sa1, xq_same, xq_other, upd_s, oI_n, oI_s, xv_0, xv_1, xv_2, xv_3, xm_p1, xm_p2, xq_fp, xq_fn, List.filter_nil, Nat.reduceBEq, Bool.not_true, Bool.not_false, Bool.and_true, Bool.and_false, Bool.false_and, Bool.true_and, if_true, if_false, Bool.false_eq_true, reduceIte, xc_i, xc_j, xc_r, xc_n, List.nil_append, List.cons_append, Option.toList_some, Option.toList_none, nI_ltJ, nI_leJ, nI_eqJ, nI_ltz, nI_gez, nI_gtz, nI_lez, nI_eqz, m1_ltz, m1_gez, true_imp_iff, false_imp_iff, true_and, and_true, ne_eq, not_false_eq_true, not_true_eq_false, Nat.reduceEqDiff, Nat.reduceLT, Nat.reduceLeDiff]
              refine ⟨fun c99 => ?_, fun c => absurd (by omega) c⟩
              with_reducible refine xm_go_blk b_X9_begin_112 k_X9_begin_112 ?_
              refine by_iload_n rfl ?_
              refine by_bipush cb_10 ?_
              refine by_ic_lt 129 rfl ?_
              simp (disch := first | exact Nat.ne_of_beq_eq_false rfl | exact rfl | omega) only [nI_add, xa_sub, xa_mul, pk_div, nm_mod, xa_shr, xa_and7, xa_and1, xa_and255, xa_by_and, nI_m1, Nat.add_sub_cancel, Nat.reducePow, Nat.zero_add, Nat.add_zero, Nat.reduceAdd, Nat.reduceMul, Nat.reduceSub, xf_same, xq_ff, xq_fo, xf_1, xf_2, xs_1, xs_2, xs_same, xq_so, xj_1, xj_2, xj_same, xq_jo, xq_sa1, xq_same, xq_other, upd_s, oI_n, oI_s, xv_0, xv_1, xv_2, xv_3, xm_p1, xm_p2, xq_fp, xq_fn, List.filter_nil, Nat.reduceBEq, Bool.not_true, Bool.not_false, Bool.and_true, Bool.and_false, Bool.false_and, Bool.true_and, if_true, if_false, Bool.false_eq_true, reduceIte, xc_i, xc_j, xc_r, xc_n, List.nil_append, List.cons_append, Option.toList_some, Option.toList_none, nI_ltJ, nI_leJ, nI_eqJ, nI_ltz, nI_gez, nI_gtz, nI_lez, nI_eqz, m1_ltz, m1_gez, true_imp_iff, false_imp_iff, true_and, and_true, ne_eq, not_false_eq_true, not_true_eq_false, Nat.reduceEqDiff, Nat.reduceLT, Nat.reduceLeDiff]
              refine ⟨fun c112 => ?_, fun c => absurd (by omega) c⟩
              with_reducible refine xm_go_blk b_X9_begin_129 k_X9_begin_129 ?_
              refine by_iload_n rfl ?_
              refine by_iret ry_142 (by first | rfl | assumption) ?_
              exact hG _ _ h2 nh W eb (fcp g2) ⟨F2, T2, ⟨c2, h15, _, cG0_new (y := 0) cg2 (Nat.le_refl _) r1 r2 r3 r5 (fun _ => r4) (fun z => by omega)⟩, by show 64 * nh ≤ tkE t p; omega, w13'⟩ (Nat.le_refl _) (by show _ ≤ 5 * W + tkE t p; omega) s16 s0
            · with_reducible refine xm_go_blk b_X9_begin_99 k_X9_begin_99 ?_
              refine by_istore_n (by rw [ml_142]; decide) ?_
              refine by_iload_n rfl ?_
              refine by_bipush cb_6 ?_
              refine by_ic_gt 112 rfl ?_
              simp (disch := first | exact Nat.ne_of_beq_eq_false rfl | exact rfl | omega) only [nI_add, xa_sub, xa_mul, pk_div, nm_mod, xa_shr, xa_and7, xa_and1, xa_and255, xa_by_and, nI_m1, Nat.add_sub_cancel, Nat.reducePow, Nat.zero_add, Nat.add_zero, Nat.reduceAdd, Nat.reduceMul, Nat.reduceSub, xf_same, xq_ff, xq_fo, xf_1, xf_2, xs_1, xs_2, xs_same, xq_so, xj_1, xj_2, xj_same, xq_jo, xq_sa1, xq_same, xq_other, upd_s, oI_n, oI_s, xv_0, xv_1, xv_2, xv_3, xm_p1, xm_p2, xq_fp, xq_fn, List.filter_nil, Nat.reduceBEq, Bool.not_true, Bool.not_false, Bool.and_true, Bool.and_false, Bool.false_and, Bool.true_and, if_true, if_false, Bool.false_eq_true, reduceIte, xc_i, xc_j, xc_r, xc_n, List.nil_append, List.cons_append, Option.toList_some, Option.toList_none, nI_ltJ, nI_leJ, nI_eqJ, nI_ltz, nI_gez, nI_gtz, nI_lez, nI_eqz, m1_ltz, m1_gez, true_imp_iff, false_imp_iff, true_and, and_true, ne_eq, not_false_eq_true, not_true_eq_false, Nat.reduceEqDiff, Nat.reduceLT, Nat.reduceLeDiff]
              refine ⟨fun c99 => ?_, fun c => absurd (by omega) c⟩
              with_reducible refine xm_go_blk b_X9_begin_112 k_X9_begin_112 ?_
              refine by_iload_n rfl ?_
              refine by_bipush cb_10 ?_
              refine by_ic_lt 129 rfl ?_
              simp (disch := first | exact Nat.ne_of_beq_eq_false rfl | exact rfl | omega) only [nI_add, xa_sub, xa_mul, pk_div, nm_mod, xa_shr, xa_and7, xa_and1, xa_and255, xa_by_and, nI_m1, Nat.add_sub_cancel, Nat.reducePow, Nat.zero_add, Nat.add_zero, Nat.reduceAdd, Nat.reduceMul, Nat.reduceSub, xf_same, xq_ff, xq_fo, xf_1, xf_2, xs_1, xs_2, xs_same, xq_so, xj_1, xj_2, xj_same, xq_jo, xq_sa1, xq_same, xq_other, upd_s, oI_n, oI_s, xv_0, xv_1, xv_2, xv_3, xm_p1, xm_p2, xq_fp, xq_fn, List.filter_nil, Nat.reduceBEq, Bool.not_true, Bool.not_false, Bool.and_true, Bool.and_false, Bool.false_and, Bool.true_and, if_true, if_false, Bool.false_eq_true, reduceIte, xc_i, xc_j, xc_r, xc_n, List.nil_append, List.cons_append, Option.toList_some, Option.toList_none, nI_ltJ, nI_leJ, nI_eqJ, nI_ltz, nI_gez, nI_gtz, nI_lez, nI_eqz, m1_ltz, m1_gez, true_imp_iff, false_imp_iff, true_and, and_true, ne_eq, not_false_eq_true, not_true_eq_false, Nat.reduceEqDiff, Nat.reduceLT, Nat.reduceLeDiff]
              refine ⟨fun c => absurd c (by omega), fun c112 => ?_⟩
              with_reducible refine xm_go_blk b_X9_begin_118 k_X9_begin_118 ?_
              refine by_aload_n rfl ?_
              refine by_inv0 cn_142 lk_9_97 (by rw [xe_cnt]; decide) is_147 np_147 cn_147 (by first | exact rfl | assumption) (Nat.le_of_ble_eq_true rfl) ?_
              refine nw h2 (tkE t p) _ T2 F2 g2 w13' b3 (fun h3 f3 w3 T3 F3 g3 => ?_)
              with_reducible refine xm_go_blk b_X9_begin_122 k_X9_begin_122 ?_
              refine by_aload_n rfl ?_
              refine by_iload_n rfl ?_
              refine by_iload_n rfl ?_
              refine by_inv2 cn_142 lk_9_172 (by rw [xe_cnt]; decide) is_154 np_154 cn_154 (by first | exact rfl | assumption) (Nat.le_of_ble_eq_true rfl) ?_
              refine sp_readOperand (d := d) F3 hpp T3 w3 b3 (by omega) (by omega) (by omega) (cG0_fr cg2 f3 (by simp) (by simp) (by simp) (by simp) (by simp) (by simp)) (by rw [f3.2.2 _ _ x15]; exact h15) (by omega) (by rw [f3.2.2 _ _ x0]; exact c2) (by rw [f3.1 _ (by simp)]; exact r1) (by rw [f3.1 _ (by simp)]; exact r2) (by rw [f3.1 _ (by simp)]; exact r3) (by rw [f3.1 _ (by simp)]; exact r5) (fun q h4 nh' eo f4 cg4 n4 a13 a16 a00 => ?_) (fun h4 eo f4 a16 a0 => ?_)
              · have k52 : tkK t (tkE t p) = 5 := (sOp_ok b3 (by omega) (by omega) eo).1
                have lt2 := v4 (by rw [k52]; decide)
                have eb : sBeg t NL G st p = .inr ((sAdd G c q.1 q.2.1 q.2.2, st, tkE t (tkE t p)), some (sCt G)) := by
                  unfold sBeg
                  rw [if_neg k3, ew]
                  simp only [et, c13, if_false, full, c6, c9, eo]
                with_reducible refine xm_go_blk b_X9_begin_128 k_X9_begin_128 ?_
                refine by_iret ry_142 (by first | rfl | assumption) ?_
                exact hG _ _ h4 nh' W eb (fcp (Fr_tr g3 f4 (fun _ z => z) (fun _ z => z))) ⟨Fr_XF F3 f4 (cp_fin hpp), cT1_fr hpp T3 f4, cg4, n4, by rw [a13]; exact w3.2.2.1⟩ (Nat.le_refl _) (by show _ ≤ 5 * W + tkE t (tkE t p); omega) (by rw [a16, f3.2.2 _ _ (by simp)]; exact s16) (by rw [a00, f3.2.2 _ _ (by simp)]; exact s0)
              · have eb : sBeg t NL G st p = .inl (1, tkF t (tkE t p)) := by
                  unfold sBeg
                  rw [if_neg k3, ew]
                  simp only [et, c13, if_false, full, c6, c9, eo]
                with_reducible refine xm_go_blk b_X9_begin_128 k_X9_begin_128 ?_
                refine by_iret ry_142 (by first | rfl | assumption) ?_
                exact hB 1 _ h4 W eb (fcp (Fr_tr g3 f4 (fun _ z => z) (fun _ z => z))) (cT1_fr hpp T3 f4).2.2.2.2.2.2 (Nat.le_succ _) a16 a0
end SY
