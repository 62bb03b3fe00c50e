/-! ===== say, whole: the class ===== -/
theorem SyG_le {t bl : List Nat} {G : sG} {n a : Nat} (h : SyG t G n a bl) : a ≤ 11 := by
  obtain ⟨L, _, h⟩ := h
  rcases h with ⟨_, h⟩ | ⟨_, ⟨_, h⟩ | ⟨S, T, _, ⟨_, h⟩ | ⟨_, tw, L2, _, _, h⟩⟩⟩
  · omega
  · omega
  · omega
  · rcases h with ⟨_, h⟩ | ⟨_, ⟨_, h⟩ | ⟨_, ⟨_, h⟩ | ⟨_, ⟨_, h⟩ | ⟨_, h, _⟩⟩⟩⟩ <;> omega
abbrev saR (pp : Nat) : List Nat := [6, 8, 9, 10, 11, 12, 13, 14, 16, 17, 18, 19, 20, 21, 47, 48, 49, 50, 51, pp + 1, pp + 2, pp + 3, pp + 4, pp + 5, pp + 6, pp + 7, pp + 11, pp + 15, pp + 16, pp + 17, pp + 18, pp + 19, pp + 20, pp + 21, pp + 22, pp + 23, pp + 24]
abbrev saT (pp : Nat) : List (Nat × Nat) := [(0, 16), (1, 1), (1, 2), (1, 3), (5, 1), (5, 2), (5, 3), (7, 2), (7, 9), (15, 6), (15, 7), (46, 0), (46, 7), (46, 8), (46, 9), (46, 10), (46, 11), (46, 12), (46, 13), (46, 14), (46, 15), (46, 16), (pp, 0), (pp, 14), (pp, 15), (pp + 14, 0), (pp + 14, 11)]
theorem sa_fin {pp : Nat} (hpp : pp = 52 ∨ pp = 77) : xt_fin.all (fun q => !((saT pp).contains (q.1, q.2.1))) = true := by rcases hpp with rfl | rfl <;> decide +kernel
section SY
variable {sc : xm_Sc} {d pp W : Nat} {t : List Nat} {h : xm_H} {post : xm_Po}
theorem sp_tell (hpp : pp = 52 ∨ pp = 77) (hF : XF h) (hr : rowIs h 1 2 t) (hfx : fxA h) (hO : ordI h W) (hW : W + 4000 < 1000000)
    (hp : ∀ h' a f bl W', SyF t a f bl → a < 2000 → Fr (saR pp) (saT pp) h h' → fxA h' → ordI h' W' → 5 * W' ≤ 5 * W + t.length + 10 → h'.2.2 46 0 = .int (nI f) → (a = 0 → penB h' bl) → post (some (.int (nI a))) h') :
    xm_T (XE sc) (d + 8) 160 [.ref 46, .ref 1, .ref pp, .ref 5] h post := by
  have ht8 : t.length ≤ 8192 := hr.2.2.1
  have q : 16 ∉ sstR pp ∧ 17 ∉ sstR pp ∧ 18 ∉ sstR pp ∧ (46, 0) ∉ tlT pp := by rcases hpp with rfl | rfl <;> decide
  have sR : ∀ c ∈ sstR pp, c ∈ saR pp := by intro c hc; simp [sstR, saR] at hc ⊢; rcases hc with rfl | rfl | rfl | rfl | rfl | rfl | rfl | rfl | rfl | rfl | rfl | rfl | rfl | rfl | rfl <;> simp
  have sT : ∀ c ∈ sstT pp, c ∈ saT pp := by intro c hc; simp [sstT, saT] at hc ⊢; rcases hc with rfl | rfl | rfl | rfl | rfl | rfl | rfl | rfl | rfl | rfl | rfl | rfl | rfl | rfl | rfl | rfl <;> simp
  refine tl_defs hpp hF hr hO hW (fun e f h1 W1 hx f1 o1 w1 a0 => ?_) (fun G NL w n h1 p' nh W1 hx f1 hE hpt hI w1 a0 => ?_)
  · obtain ⟨k, hk⟩ := hx
    have e1 := sDf_e hk
    exact hp h1 e f [] W1 ⟨k, Or.inl hk⟩ e1.2 (Fr_mo f1 sR sT) (fxA_fr hfx f1 q.1 q.2.1 q.2.2.1) o1 (by omega) a0 (fun z => by omega)
  · obtain ⟨k, hk⟩ := hx
    refine tl_105 (d := d + 1) hpp hE hpt hI (fxA_fr hfx f1 q.1 q.2.1 q.2.2.1) (by omega) (fun h2 a bl W2 hS f2 A2 O2 w2 hb => ?_)
    have := SyG_le hS
    exact hp h2 a 0 bl W2 ⟨k, Or.inr ⟨G, NL, w, n, hk, hI, hS, rfl⟩⟩ (by omega) (Fr_tr (Fr_mo f1 sR sT) f2 (by simp [tlR, saR]) (by simp [tlT, saT])) A2 O2 (by omega) (by rw [f2.2.2 _ _ q.2.2.2]; exact a0) hb
theorem sp_xsay (hpp : pp = 52 ∨ pp = 77) (hF : XF h) (h10 : h.2.2 0 10 = .ref pp) (hr : rowIs h 1 2 t) (hfx : fxA h) (hO : ordI h W) (hW : W + 4000 < 1000000)
    (hp1 : ∀ h' a f bl W', a ≠ 0 → a < 2000 → SyF t a f bl → Fr (saR pp) (saT pp) h h' → fxA h' → ordI h' W' → 5 * W' ≤ 5 * W + t.length + 10 → h'.2.2 0 16 = .int (nI f) → rowIs h' 1 2 [] → post (some (.int (nI a))) h')
    (hp0 : ∀ h' f bl W', SyF t 0 f bl → Fr (4 :: saR pp) ((3, 1) :: (3, 2) :: (3, 3) :: saT pp) h h' → fxA h' → ordI h' W' → 5 * W' ≤ 5 * W + t.length + 10 → h'.2.2 0 16 = .int (nI f) → rowIs h' 1 2 [] → rowIs h' 3 4 (pkL bl) → post (some (.int (nI 0))) h') :
    xm_T (XE sc) (d + 9) 189 [.ref 0] h post := by
  refine xq_in rfl ?_
  simp only [xq_a0, xq_aI, xq_aJ, xq_aR, Nat.reduceAdd]
  with_reducible refine xm_go_blk b_X11_say_0 k_X11_say_0 ?_
  refine by_aload_n rfl ?_
  refine by_getf cn_189 fl_11_64 (by first | exact rfl | assumption) (by decide) ?_
  refine by_aload_n rfl ?_
  refine by_getf cn_189 fl_11_10 (by first | exact rfl | assumption) (by decide) ?_
  refine by_aload_n rfl ?_
  refine by_getf cn_189 fl_11_75 (by first | exact rfl | assumption) (by decide) ?_
  refine by_aload_n rfl ?_
  refine by_getf cn_189 fl_11_19 (by first | exact rfl | assumption) (by decide) ?_
  simp (disch := first | exact Nat.ne_of_beq_eq_false rfl | exact rfl | omega) only [nI_add, xa_sub, xa_mul, pk_div, nm_mod, xa_shr, xa_and7, xa_and1, xa_and255, xa_by_and, nI_m1, Nat.add_sub_cancel, Nat.reducePow, Nat.zero_add, Nat.add_zero, Nat.reduceAdd, Nat.reduceMul, Nat.reduceSub, xf_same, xq_ff, xq_fo, xf_1, xf_2, xs_1, xs_2, xs_same, xq_so, xj_1, xj_2, xj_same, xq_jo, xq_sa1, xq_same, xq_other, upd_s, oI_n, oI_s, xv_0, xv_1, xv_2, xv_3, xm_p1, xm_p2, xq_fp, xq_fn, List.filter_nil, Nat.reduceBEq, Bool.not_true, Bool.not_false, Bool.and_true, Bool.and_false, Bool.false_and, Bool.true_and, if_true, if_false, Bool.false_eq_true, reduceIte, xc_i, xc_j, xc_r, xc_n, List.nil_append, List.cons_append, Option.toList_some, Option.toList_none, xf_0_8 hF, xf_0_0 hF, h10, xf_0_2 hF]
  refine by_inv3 cn_189 lk_11_247 (by rw [xe_cnt]; decide) is_160 np_160 cn_160 (by first | exact rfl | assumption) (Nat.le_of_ble_eq_true rfl) ?_
  refine sp_tell (d := d) hpp hF hr hfx hO hW (fun h1 a f bl W1 hS ha f1 A1 O1 w1 e0 hb => ?_)
  have F1 : XF h1 := Fr_XF hF f1 (sa_fin hpp)
  with_reducible refine xm_go_blk b_X11_say_19 k_X11_say_19 ?_
  refine by_istore_n (by rw [ml_189]; decide) ?_
  refine by_aload_n rfl ?_
  refine by_aload_n rfl ?_
  refine by_getf cn_189 fl_11_64 (by first | exact rfl | assumption) (by decide) ?_
  simp (disch := first | exact Nat.ne_of_beq_eq_false rfl | exact rfl | omega) only [nI_add, xa_sub, xa_mul, pk_div, nm_mod, xa_shr, xa_and7, xa_and1, xa_and255, xa_by_and, nI_m1, Nat.add_sub_cancel, Nat.reducePow, Nat.zero_add, Nat.add_zero, Nat.reduceAdd, Nat.reduceMul, Nat.reduceSub, xf_same, xq_ff, xq_fo, xf_1, xf_2, xs_1, xs_2, xs_same, xq_so, xj_1, xj_2, xj_same, xq_jo, xq_sa1, xq_same, xq_other, upd_s, oI_n, oI_s, xf_0_8 F1, e0, xf_0_0 F1]
  refine by_getf cn_189 fl_11_251 (by first | exact rfl | assumption) (by decide) ?_
  simp (disch := first | exact Nat.ne_of_beq_eq_false rfl | exact rfl | omega) only [nI_add, xa_sub, xa_mul, pk_div, nm_mod, xa_shr, xa_and7, xa_and1, xa_and255, xa_by_and, nI_m1, Nat.add_sub_cancel, Nat.reducePow, Nat.zero_add, Nat.add_zero, Nat.reduceAdd, Nat.reduceMul, Nat.reduceSub, xf_same, xq_ff, xq_fo, xf_1, xf_2, xs_1, xs_2, xs_same, xq_so, xj_1, xj_2, xj_same, xq_jo, xq_sa1, xq_same, xq_other, upd_s, oI_n, oI_s, xf_0_8 F1, e0, xf_0_0 F1]
  refine by_putf cn_189 fl_11_254 (by first | exact rfl | assumption) (by decide) nf_11_16 ft_11_16 (by first | rfl | assumption) (by first | rfl | assumption) ?_
  refine by_aload_n rfl ?_
  refine by_getf cn_189 fl_11_10 (by first | exact rfl | assumption) (by decide) ?_
  simp (disch := first | exact Nat.ne_of_beq_eq_false rfl | exact rfl | omega) only [nI_add, xa_sub, xa_mul, pk_div, nm_mod, xa_shr, xa_and7, xa_and1, xa_and255, xa_by_and, nI_m1, Nat.add_sub_cancel, Nat.reducePow, Nat.zero_add, Nat.add_zero, Nat.reduceAdd, Nat.reduceMul, Nat.reduceSub, xf_same, xq_ff, xq_fo, xf_1, xf_2, xs_1, xs_2, xs_same, xq_so, xj_1, xj_2, xj_same, xq_jo, xq_sa1, xq_same, xq_other, upd_s, oI_n, oI_s, xv_0, xv_1, xv_2, xv_3, xm_p1, xm_p2, xq_fp, xq_fn, List.filter_nil, Nat.reduceBEq, Bool.not_true, Bool.not_false, Bool.and_true, Bool.and_false, Bool.false_and, Bool.true_and, if_true, if_false, Bool.false_eq_true, reduceIte, xc_i, xc_j, xc_r, xc_n, List.nil_append, List.cons_append, Option.toList_some, Option.toList_none, xf_0_8 F1, e0, xf_0_0 F1]
  refine by_inv0 cn_189 lk_11_98 (by rw [xe_cnt]; decide) is_128 np_128 cn_128 (by first | exact rfl | assumption | exact ps_12 hpp) (Nat.le_of_ble_eq_true rfl) ?_
  refine sp_clear rfl ?_
  have f2 : Fr [] [(0, 16), (1, 1), (1, 2), (1, 3)] h1 (xm_sf (xm_sf (xm_sf (xm_sf h1 0 16 (.int (nI f))) 1 1 (.int (nI 0))) 1 3 (.int (nI 0))) 1 2 (.int (nI 0))) := Fr_sf (Fr_sf (Fr_sf (Fr_sf Fr_rf (by simp)) (by simp)) (by simp)) (by simp)
  have e16 : (xm_sf (xm_sf (xm_sf (xm_sf h1 0 16 (.int (nI f))) 1 1 (.int (nI 0))) 1 3 (.int (nI 0))) 1 2 (.int (nI 0))).2.2 0 16 = .int (nI f) := by
    rw [xq_fo (by omega), xq_fo (by omega), xq_fo (by omega)]; simp only [xf_same]
  have er : rowIs (xm_sf (xm_sf (xm_sf (xm_sf h1 0 16 (.int (nI f))) 1 1 (.int (nI 0))) 1 3 (.int (nI 0))) 1 2 (.int (nI 0))) 1 2 [] := by
    refine ⟨by rw [f2.2.2 _ _ (by simp)]; exact xf_1_0 F1, ?_, by simp, fun i hi => absurd hi (by simp), fun i hi => absurd hi (by simp)⟩
    rw [xq_ff (by omega), xq_ff (by omega)]; simp only [xf_same]; rfl
  have F2 := Fr_XF F1 f2 (by decide +kernel)
  have A2 : fxA (xm_sf (xm_sf (xm_sf (xm_sf h1 0 16 (.int (nI f))) 1 1 (.int (nI 0))) 1 3 (.int (nI 0))) 1 2 (.int (nI 0))) := A1
  have O2 : ordI (xm_sf (xm_sf (xm_sf (xm_sf h1 0 16 (.int (nI f))) 1 1 (.int (nI 0))) 1 3 (.int (nI 0))) 1 2 (.int (nI 0))) W1 := ⟨by rw [f2.2.2 _ _ (by simp)]; exact O1.1, O1.2⟩
  have f12 : Fr (saR pp) (saT pp) h (xm_sf (xm_sf (xm_sf (xm_sf h1 0 16 (.int (nI f))) 1 1 (.int (nI 0))) 1 3 (.int (nI 0))) 1 2 (.int (nI 0))) := Fr_tr f1 f2 (by simp) (by simp [saT])
  have B2 : a = 0 → penB (xm_sf (xm_sf (xm_sf (xm_sf h1 0 16 (.int (nI f))) 1 1 (.int (nI 0))) 1 3 (.int (nI 0))) 1 2 (.int (nI 0))) bl := fun z => penB_fr (hb z) f2 (by simp) (by simp) (by simp) (by simp)
  generalize xm_sf (xm_sf (xm_sf (xm_sf h1 0 16 (.int (nI f))) 1 1 (.int (nI 0))) 1 3 (.int (nI 0))) 1 2 (.int (nI 0)) = h2 at *
  by_cases q : a = 0
  · subst q
    have hb2 := B2 rfl
    have hl : (pkL bl).length ≤ 8192 := by
      have := hb2.2.1
      rw [pkL_len]; omega
    with_reducible refine xm_go_blk b_X11_say_38 k_X11_say_38 ?_
    refine by_iload_n rfl ?_
    refine by_if_ne 47 rfl ?_
    simp (disch := first | exact Nat.ne_of_beq_eq_false rfl | exact rfl | omega) only [nI_add, xa_sub, xa_mul, pk_div, nm_mod, xa_shr, xa_and7, xa_and1, xa_and255, xa_by_and, nI_m1, Nat.add_sub_cancel, Nat.reducePow, Nat.zero_add, Nat.add_zero, Nat.reduceAdd, Nat.reduceMul, Nat.reduceSub, xf_same, xq_ff, xq_fo, xf_1, xf_2, xs_1, xs_2, xs_same, xq_so, xj_1, xj_2, xj_same, xq_jo, xq_sa1, xq_same, xq_other, upd_s, oI_n, oI_s, xv_0, xv_1, xv_2, xv_3, xm_p1, xm_p2, xq_fp, xq_fn, List.filter_nil, Nat.reduceBEq, Bool.not_true, Bool.not_false, Bool.and_true, Bool.and_false, Bool.false_and, Bool.true_and, if_true, if_false, Bool.false_eq_true, reduceIte, xc_i, xc_j, xc_r, xc_n, List.nil_append, List.cons_append, Option.toList_some, Option.toList_none, nI_ltJ, nI_leJ, nI_eqJ, nI_ltz, nI_gez, nI_gtz, nI_lez, nI_eqz, m1_ltz, m1_gez, true_imp_iff, false_imp_iff, true_and, and_true, ne_eq, not_false_eq_true, not_true_eq_false, Nat.reduceEqDiff, Nat.reduceLT, Nat.reduceLeDiff]
    with_reducible refine xm_go_blk b_X11_say_42 k_X11_say_42 ?_
    refine by_aload_n rfl ?_
    refine by_inv0 cn_189 lk_11_194 (by rw [xe_cnt]; decide) is_186 np_186 cn_186 (by first | exact rfl | assumption) (Nat.le_of_ble_eq_true rfl) ?_
    refine sp_publishL (d := d + 5) F2 (penB_pen hb2) hl (fun h3 f3 r3 => ?_)
    with_reducible refine xm_go_blk b_X11_say_46 k_X11_say_46 ?_
    refine by_pop rfl ?_
    refine by_nil ?_
    with_reducible refine xm_go_blk b_X11_say_47 k_X11_say_47 ?_
    refine by_iload_n rfl ?_
    refine by_iret ry_189 (by first | rfl | assumption) ?_
    exact hp0 h3 f bl W1 hS (Fr_tr (Fr_mo f12 (fun _ z => List.mem_cons_of_mem _ z) (fun _ z => List.mem_cons_of_mem _ (List.mem_cons_of_mem _ (List.mem_cons_of_mem _ z)))) f3 (by simp) (by simp)) (fxA_fr A2 f3 (by simp) (by simp) (by simp)) ⟨by rw [f3.2.2 _ _ (by simp)]; exact O2.1, fun x hx => by rw [f3.1 10 (by simp)]; exact O2.2 x hx⟩ w1 (by rw [f3.2.2 _ _ (by simp)]; exact e16) (rowIs_fr er f3 (by simp) (by simp) (by simp)) r3
  · have q' : (a = 0) = False := eq_false q
    with_reducible refine xm_go_blk b_X11_say_38 k_X11_say_38 ?_
    refine by_iload_n rfl ?_
    refine by_if_ne 47 rfl ?_
    simp (disch := first | exact Nat.ne_of_beq_eq_false rfl | exact rfl | omega) only [nI_add, xa_sub, xa_mul, pk_div, nm_mod, xa_shr, xa_and7, xa_and1, xa_and255, xa_by_and, nI_m1, Nat.add_sub_cancel, Nat.reducePow, Nat.zero_add, Nat.add_zero, Nat.reduceAdd, Nat.reduceMul, Nat.reduceSub, xf_same, xq_ff, xq_fo, xf_1, xf_2, xs_1, xs_2, xs_same, xq_so, xj_1, xj_2, xj_same, xq_jo, xq_sa1, xq_same, xq_other, upd_s, oI_n, oI_s, xv_0, xv_1, xv_2, xv_3, xm_p1, xm_p2, xq_fp, xq_fn, List.filter_nil, Nat.reduceBEq, Bool.not_true, Bool.not_false, Bool.and_true, Bool.and_false, Bool.false_and, Bool.true_and, if_true, if_false, Bool.false_eq_true, reduceIte, xc_i, xc_j, xc_r, xc_n, List.nil_append, List.cons_append, Option.toList_some, Option.toList_none, nI_ltJ, nI_leJ, nI_eqJ, nI_ltz, nI_gez, nI_gtz, nI_lez, nI_eqz, m1_ltz, m1_gez, true_imp_iff, false_imp_iff, true_and, and_true, ne_eq, not_false_eq_true, not_true_eq_false, Nat.reduceEqDiff, Nat.reduceLT, Nat.reduceLeDiff, q']
    with_reducible refine xm_go_blk b_X11_say_47 k_X11_say_47 ?_
    refine by_iload_n rfl ?_
    refine by_iret ry_189 (by first | rfl | assumption) ?_
    exact hp1 h2 a f bl W1 q ha hS f12 A2 O2 w1 e16 er
end SY
/-! ===== say, whole: the reference ===== -/
abbrev smT : List (Nat × Nat) := [(102, 0), (102, 2), (102, 5), (102, 14), (102, 36), (102, 40), (102, 50), (102, 81), (102, 82), (102, 83), (102, 84), (102, 85), (102, 88), (102, 92)]
section SY
variable {sc : xm_Sc} {d : Nat} {t : List Nat} {h : xm_H} {post : xm_Po}
theorem pk8_256 {bl : List Nat} (hb : bOK bl) (k : Nat) : pk8 (bg bl) k < 256 := by
  have g := bg_lt hb
  have g0 := g (8 * k); have g1 := g (8 * k + 1); have g2 := g (8 * k + 2); have g3 := g (8 * k + 3)
  have g4 := g (8 * k + 4); have g5 := g (8 * k + 5); have g6 := g (8 * k + 6); have g7 := g (8 * k + 7)
  unfold pk8
  omega
theorem sp_msay (hF : XF h) (hm : mtp h t) (htg : tgM h)
    (hp1 : ∀ h' a f bl, a ≠ 0 → a < 2000 → SyF t a f bl → Fr ssR smT h h' → kpT h h' → h'.2.2 102 36 = .int (nI f) → h'.2.2 102 0 = .int (nI 0) → h'.2.2 102 2 = .int (nI 0) → post (some (.int (nI a))) h')
    (hp0 : ∀ h' f bl, SyF t 0 f bl → Fr (104 :: ssR) ((102, 4) :: smT) h h' → kpT h h' → h'.2.2 102 36 = .int (nI f) → h'.2.2 102 0 = .int (nI 0) → h'.2.2 102 2 = .int (nI 0) → mrow h' 104 (pkL bl) → h'.2.2 102 4 = .int (nI (pkL bl).length) → post (some (.int (nI 0))) h') :
    xm_T (XE sc) (d + 10) 291 [.ref 102] h post := by
  have f0 : Fr [] [(102, 0)] h (xm_sf h 102 0 (.int (nI 0))) := Fr_sf Fr_rf (by simp)
  have e0 : (xm_sf h 102 0 (.int (nI 0))).2.2 102 0 = .int (nI 0) := by simp only [xf_same]
  have T0 : tgM (xm_sf h 102 0 (.int (nI 0))) := htg
  refine xq_in rfl ?_
  simp only [xq_a0, xq_aI, xq_aJ, xq_aR, Nat.reduceAdd]
  with_reducible refine xm_go_blk b_X12_say_0 k_X12_say_0 ?_
  refine by_aload_n rfl ?_
  refine by_iconst ci_0 ?_
  refine by_putf cn_291 fl_12_205 (by first | exact rfl | assumption) (by decide) nf_12_0 ft_12_0 (by first | rfl | assumption) (by first | rfl | assumption) ?_
  refine by_aload_n rfl ?_
  refine by_inv0 cn_291 lk_12_688 (by rw [xe_cnt]; decide) is_297 np_297 cn_297 (by first | exact rfl | assumption) (Nat.le_of_ble_eq_true rfl) ?_
  generalize xm_sf h 102 0 (.int (nI 0)) = h1 at *
  have F1 : XF h1 := Fr_XF hF f0 (by decide +kernel)
  refine sp_speech (d := d) F1 (mtp_f2 hm f0 (by simp) (by simp)) T0 (fun h2 a f bl hS f2 P2 ha e36 hb => ?_)
  have F2 : XF h2 := Fr_XF F1 f2 (by decide +kernel)
  have e02 : h2.2.2 102 0 = .int (nI 0) := by rw [f2.2.2 _ _ (by simp)]; exact e0
  have f3 : Fr [] [(102, 2)] h2 (xm_sf h2 102 2 (.int (nI 0))) := Fr_sf Fr_rf (by simp)
  have s0 : (xm_sf h2 102 2 (.int (nI 0))).2.2 102 0 = .int (nI 0) := by rw [xq_ff (by omega)]; exact e02
  have s2 : (xm_sf h2 102 2 (.int (nI 0))).2.2 102 2 = .int (nI 0) := by simp only [xf_same]
  have s36 : (xm_sf h2 102 2 (.int (nI 0))).2.2 102 36 = .int (nI f) := by rw [xq_ff (by omega)]; exact e36
  have G3 : Fr ssR smT h (xm_sf h2 102 2 (.int (nI 0))) := Fr_tr (Fr_tr (Fr_mo f0 (by simp) (by simp [smT])) f2 (fun _ z => z) (by simp [ssT, smT])) f3 (by simp) (by simp [smT])
  have P3 : kpT h (xm_sf h2 102 2 (.int (nI 0))) := kpT_tr (kpT_tr (kpT_fr f0 (fun a q1 q2 => by simp)) P2) (kpT_fr f3 (fun a q1 q2 => by simp))
  by_cases q : a = 0
  · subst q
    obtain ⟨⟨b1, b2, b3, b4⟩, hl⟩ := hb rfl
    have b3' : (xm_sf h2 102 2 (.int (nI 0))).2.2 102 92 = .int (nI bl.length) := by rw [xq_ff (by omega)]; exact b3
    have F3 : XF (xm_sf h2 102 2 (.int (nI 0))) := Fr_XF F2 f3 (by decide +kernel)
    have b4' : ∀ k, k < 8192 → 8 * k < bl.length → (xm_sf h2 102 2 (.int (nI 0))).1 147 k = nI (pk8 (bg bl) k) := b4
    with_reducible refine xm_go_blk b_X12_say_9 k_X12_say_9 ?_
    refine by_istore_n (by rw [ml_291]; decide) ?_
    refine by_aload_n rfl ?_
    refine by_iconst ci_0 ?_
    refine by_putf cn_291 fl_12_215 (by first | exact rfl | assumption) (by decide) nf_12_2 ft_12_2 (by first | rfl | assumption) (by first | rfl | assumption) ?_
    refine by_iload_n rfl ?_
    refine by_if_le 21 rfl ?_
    simp (disch := first | exact Nat.ne_of_beq_eq_false rfl | exact rfl | omega) only [nI_add, xa_sub, xa_mul, pk_div, nm_mod, xa_shr, xa_and7, xa_and1, xa_and255, xa_by_and, nI_m1, Nat.add_sub_cancel, Nat.reducePow, Nat.zero_add, Nat.add_zero, Nat.reduceAdd, Nat.reduceMul, Nat.reduceSub, xf_same, xq_ff, xq_fo, xf_1, xf_2, xs_1, xs_2, xs_same, xq_so, xj_1, xj_2, xj_same, xq_jo, xq_sa1, xq_same, xq_other, upd_s, oI_n, oI_s, xv_0, xv_1, xv_2, xv_3, xm_p1, xm_p2, xq_fp, xq_fn, List.filter_nil, Nat.reduceBEq, Bool.not_true, Bool.not_false, Bool.and_true, Bool.and_false, Bool.false_and, Bool.true_and, if_true, if_false, Bool.false_eq_true, reduceIte, xc_i, xc_j, xc_r, xc_n, List.nil_append, List.cons_append, Option.toList_some, Option.toList_none, nI_ltJ, nI_leJ, nI_eqJ, nI_ltz, nI_gez, nI_gtz, nI_lez, nI_eqz, m1_ltz, m1_gez, true_imp_iff, false_imp_iff, true_and, and_true, ne_eq, not_false_eq_true, not_true_eq_false, Nat.reduceEqDiff, Nat.reduceLT, Nat.reduceLeDiff]
    generalize xm_sf h2 102 2 (.int (nI 0)) = h3 at *
    have f4 : Fr [] [(102, 4)] h3 (xm_sf h3 102 4 (.int (nI ((bl.length + 7) / 8)))) := Fr_sf Fr_rf (by simp)
    have s4 : (xm_sf h3 102 4 (.int (nI ((bl.length + 7) / 8)))).2.2 102 4 = .int (nI ((bl.length + 7) / 8)) := by simp only [xf_same]
    with_reducible refine xm_go_blk b_X12_say_21 k_X12_say_21 ?_
    refine by_aload_n rfl ?_
    refine by_aload_n rfl ?_
    refine by_getf cn_291 fl_12_656 (by first | exact rfl | assumption) (by decide) ?_
    refine by_bipush cb_7 ?_
    simp (disch := first | exact Nat.ne_of_beq_eq_false rfl | exact rfl | omega) only [nI_add, xa_sub, xa_mul, pk_div, nm_mod, xa_shr, xa_and7, xa_and1, xa_and255, xa_by_and, nI_m1, Nat.add_sub_cancel, Nat.reducePow, Nat.zero_add, Nat.add_zero, Nat.reduceAdd, Nat.reduceMul, Nat.reduceSub, xf_same, xq_ff, xq_fo, xf_1, xf_2, xs_1, xs_2, xs_same, xq_so, xj_1, xj_2, xj_same, xq_jo, xq_sa1, xq_same, xq_other, upd_s, oI_n, oI_s, b3']
    refine by_iadd ?_
    refine by_bipush cb_8 ?_
    refine by_idiv (by first | decide | assumption) ?_
    refine by_putf cn_291 fl_12_220 (by first | exact rfl | assumption) (by decide) nf_12_4 ft_12_4 (by first | rfl | assumption) (by first | rfl | assumption) ?_
    refine by_iconst ci_0 ?_
    refine by_istore_n (by rw [ml_291]; decide) ?_
    refine by_nil ?_
    try simp (disch := first | exact Nat.ne_of_beq_eq_false rfl | exact rfl | omega) only [nI_add, xa_sub, xa_mul, pk_div, nm_mod, xa_shr, xa_and7, xa_and1, xa_and255, xa_by_and, nI_m1, Nat.add_sub_cancel, Nat.reducePow, Nat.zero_add, Nat.add_zero, Nat.reduceAdd, Nat.reduceMul, Nat.reduceSub, xf_same, xq_ff, xq_fo, xf_1, xf_2, xs_1, xs_2, xs_same, xq_so, xj_1, xj_2, xj_same, xq_jo, xq_sa1, xq_same, xq_other, upd_s, oI_n, oI_s, xv_0, xv_1, xv_2, xv_3, xm_p1, xm_p2, xq_fp, xq_fn, List.filter_nil, Nat.reduceBEq, Bool.not_true, Bool.not_false, Bool.and_true, Bool.and_false, Bool.false_and, Bool.true_and, if_true, if_false, Bool.false_eq_true, reduceIte, xc_i, xc_j, xc_r, xc_n, List.nil_append, List.cons_append, Option.toList_some, Option.toList_none, b3']
    generalize xm_sf h3 102 4 (.int (nI ((bl.length + 7) / 8))) = h4 at *
    have key : ∀ (y k : Nat) (h5 : xm_H), k + y = (bl.length + 7) / 8 → Fr [104] [] h4 h5 → (∀ i, i < k → h5.1 104 i = nI (pk8 (bg bl) i)) → xm_go (XE sc) (xm_T (XE sc) (d + 9)) 291 post 37 [(2, .int (nI k)), (0, .ref 102)] [] h5 := by
      intro y
      induction y with
      | zero =>
        intro k h5 hk f5 hr
        have s45 : h5.2.2 102 4 = .int (nI ((bl.length + 7) / 8)) := by rw [f5.2.2 _ _ (by simp)]; exact s4
        with_reducible refine xm_go_blk b_X12_say_37 k_X12_say_37 ?_
        refine by_iload_n rfl ?_
        refine by_aload_n rfl ?_
        refine by_getf cn_291 fl_12_220 (by first | exact rfl | assumption) (by decide) ?_
        simp (disch := first | exact Nat.ne_of_beq_eq_false rfl | exact rfl | omega) only [nI_add, xa_sub, xa_mul, pk_div, nm_mod, xa_shr, xa_and7, xa_and1, xa_and255, xa_by_and, nI_m1, Nat.add_sub_cancel, Nat.reducePow, Nat.zero_add, Nat.add_zero, Nat.reduceAdd, Nat.reduceMul, Nat.reduceSub, xf_same, xq_ff, xq_fo, xf_1, xf_2, xs_1, xs_2, xs_same, xq_so, xj_1, xj_2, xj_same, xq_jo, xq_sa1, xq_same, xq_other, upd_s, oI_n, oI_s, s45]
        refine by_ic_ge 63 rfl ?_
        simp (disch := first | exact Nat.ne_of_beq_eq_false rfl | exact rfl | omega) only [nI_add, xa_sub, xa_mul, pk_div, nm_mod, xa_shr, xa_and7, xa_and1, xa_and255, xa_by_and, nI_m1, Nat.add_sub_cancel, Nat.reducePow, Nat.zero_add, Nat.add_zero, Nat.reduceAdd, Nat.reduceMul, Nat.reduceSub, xf_same, xq_ff, xq_fo, xf_1, xf_2, xs_1, xs_2, xs_same, xq_so, xj_1, xj_2, xj_same, xq_jo, xq_sa1, xq_same, xq_other, upd_s, oI_n, oI_s, xv_0, xv_1, xv_2, xv_3, xm_p1, xm_p2, xq_fp, xq_fn, List.filter_nil, Nat.reduceBEq, Bool.not_true, Bool.not_false, Bool.and_true, Bool.and_false, Bool.false_and, Bool.true_and, if_true, if_false, Bool.false_eq_true, reduceIte, xc_i, xc_j, xc_r, xc_n, List.nil_append, List.cons_append, Option.toList_some, Option.toList_none, nI_ltJ, nI_leJ, nI_eqJ, nI_ltz, nI_gez, nI_gtz, nI_lez, nI_eqz, m1_ltz, m1_gez, true_imp_iff, false_imp_iff, true_and, and_true, ne_eq, not_false_eq_true, not_true_eq_false, Nat.reduceEqDiff, Nat.reduceLT, Nat.reduceLeDiff, s45]
        refine ⟨fun c37 => ?_, fun c => absurd (by omega) c⟩
        with_reducible refine xm_go_blk b_X12_say_63 k_X12_say_63 ?_
        refine by_iconst ci_0 ?_
        refine by_iret ry_291 (by first | rfl | assumption) ?_
        have fz : Fr [104] [(102, 4)] h3 h5 := Fr_tr (Fr_mo f4 (by simp) (by simp)) f5 (by simp) (by simp)
        refine hp0 h5 f bl hS (Fr_tr (Fr_mo G3 (fun _ z => List.mem_cons_of_mem _ z) (fun _ z => List.mem_cons_of_mem _ z)) fz (by simp) (by simp)) (kpT_tr P3 (kpT_fr fz (fun a q1 q2 => by simp; omega))) (by rw [fz.2.2 _ _ (by simp)]; exact s36) (by rw [fz.2.2 _ _ (by simp)]; exact s0) (by rw [fz.2.2 _ _ (by simp)]; exact s2) ⟨fun i hi => ?_, fun i hi => ?_, by rw [pkL_len]; omega⟩ (by rw [pkL_len]; exact s45)
        · rw [pkL_len] at hi
          rw [pkL_get hi]; exact hr i (by omega)
        · rw [pkL_len] at hi
          rw [pkL_get hi]; exact pk8_256 b1 i
      | succ y ih =>
        intro k h5 hk f5 hr
        have s45 : h5.2.2 102 4 = .int (nI ((bl.length + 7) / 8)) := by rw [f5.2.2 _ _ (by simp)]; exact s4
        have F5 : XF h5 := Fr_XF (Fr_XF F3 f4 (by decide +kernel)) f5 (by decide +kernel)
        have e147 : h5.1 147 k = nI (pk8 (bg bl) k) := by rw [f5.1 147 (by simp), f4.1 147 (by simp)]; exact b4' k (by omega) (by omega)
        with_reducible refine xm_go_blk b_X12_say_37 k_X12_say_37 ?_
        refine by_iload_n rfl ?_
        refine by_aload_n rfl ?_
        refine by_getf cn_291 fl_12_220 (by first | exact rfl | assumption) (by decide) ?_
        simp (disch := first | exact Nat.ne_of_beq_eq_false rfl | exact rfl | omega) only [nI_add, xa_sub, xa_mul, pk_div, nm_mod, xa_shr, xa_and7, xa_and1, xa_and255, xa_by_and, nI_m1, Nat.add_sub_cancel, Nat.reducePow, Nat.zero_add, Nat.add_zero, Nat.reduceAdd, Nat.reduceMul, Nat.reduceSub, xf_same, xq_ff, xq_fo, xf_1, xf_2, xs_1, xs_2, xs_same, xq_so, xj_1, xj_2, xj_same, xq_jo, xq_sa1, xq_same, xq_other, upd_s, oI_n, oI_s, s45, xf_102_3 F5, xf_102_60 F5, e147]
        refine by_ic_ge 63 rfl ?_
        simp (disch := first | exact Nat.ne_of_beq_eq_false rfl | exact rfl | omega) only [nI_add, xa_sub, xa_mul, pk_div, nm_mod, xa_shr, xa_and7, xa_and1, xa_and255, xa_by_and, nI_m1, Nat.add_sub_cancel, Nat.reducePow, Nat.zero_add, Nat.add_zero, Nat.reduceAdd, Nat.reduceMul, Nat.reduceSub, xf_same, xq_ff, xq_fo, xf_1, xf_2, xs_1, xs_2, xs_same, xq_so, xj_1, xj_2, xj_same, xq_jo, xq_sa1, xq_same, xq_other, upd_s, oI_n, oI_s, xv_0, xv_1, xv_2, xv_3, xm_p1, xm_p2, xq_fp, xq_fn, List.filter_nil, Nat.reduceBEq, Bool.not_true, Bool.not_false, Bool.and_true, Bool.and_false, Bool.false_and, Bool.true_and, if_true, if_false, Bool.false_eq_true, reduceIte, xc_i, xc_j, xc_r, xc_n, List.nil_append, List.cons_append, Option.toList_some, Option.toList_none, nI_ltJ, nI_leJ, nI_eqJ, nI_ltz, nI_gez, nI_gtz, nI_lez, nI_eqz, m1_ltz, m1_gez, true_imp_iff, false_imp_iff, true_and, and_true, ne_eq, not_false_eq_true, not_true_eq_false, Nat.reduceEqDiff, Nat.reduceLT, Nat.reduceLeDiff, s45, xf_102_3 F5, xf_102_60 F5, e147]
        refine ⟨fun c => absurd c (by omega), fun c37 => ?_⟩
        with_reducible refine xm_go_blk b_X12_say_45 k_X12_say_45 ?_
        refine by_aload_n rfl ?_
        refine by_getf cn_291 fl_12_13 (by first | exact rfl | assumption) (by decide) ?_
        refine by_iload_n rfl ?_
        refine by_aload_n rfl ?_
        refine by_getf cn_291 fl_12_148 (by first | exact rfl | assumption) (by decide) ?_
        refine by_iload_n rfl ?_
        simp (disch := first | exact Nat.ne_of_beq_eq_false rfl | exact rfl | omega) only [nI_add, xa_sub, xa_mul, pk_div, nm_mod, xa_shr, xa_and7, xa_and1, xa_and255, xa_by_and, nI_m1, Nat.add_sub_cancel, Nat.reducePow, Nat.zero_add, Nat.add_zero, Nat.reduceAdd, Nat.reduceMul, Nat.reduceSub, xf_same, xq_ff, xq_fo, xf_1, xf_2, xs_1, xs_2, xs_same, xq_so, xj_1, xj_2, xj_same, xq_jo, xq_sa1, xq_same, xq_other, upd_s, oI_n, oI_s, s45, xf_102_3 F5, xf_102_60 F5, e147]
        first | refine by_iald (by first | exact rfl | assumption | exact ps_1 hpp | exact ps_2 hpp | exact ps_3 hpp | exact ps_4 hpp | exact ps_5 hpp | exact ps_6 hpp | exact ps_7 hpp | exact ps_8 hpp | exact ps_9 hpp | exact ps_10 hpp | exact ps_11 hpp | exact ps_15 hpp | exact ps_16 hpp | exact ps_17 hpp | exact ps_18 hpp | exact ps_19 hpp | exact ps_21 hpp | exact ps_22 hpp | exact ps_23 hpp | exact ps_24 hpp) ⟨by omega, by omega⟩ ?_ | refine by_tald rfl rfl ⟨by omega, by omega⟩ ?_
        refine by_iast (by first | exact rfl | assumption | exact ps_1 hpp | exact ps_2 hpp | exact ps_3 hpp | exact ps_4 hpp | exact ps_5 hpp | exact ps_6 hpp | exact ps_7 hpp | exact ps_8 hpp | exact ps_9 hpp | exact ps_10 hpp | exact ps_11 hpp | exact ps_15 hpp | exact ps_16 hpp | exact ps_17 hpp | exact ps_18 hpp | exact ps_19 hpp | exact ps_21 hpp | exact ps_22 hpp | exact ps_23 hpp | exact ps_24 hpp) ⟨by omega, by omega⟩ ?_
        refine by_iinc (by rw [ml_291]; decide) rfl ci_1 ?_
        refine by_goto 37 rfl ?_
        try simp (disch := first | exact Nat.ne_of_beq_eq_false rfl | exact rfl | omega) only [nI_add, xa_sub, xa_mul, pk_div, nm_mod, xa_shr, xa_and7, xa_and1, xa_and255, xa_by_and, nI_m1, Nat.add_sub_cancel, Nat.reducePow, Nat.zero_add, Nat.add_zero, Nat.reduceAdd, Nat.reduceMul, Nat.reduceSub, xf_same, xq_ff, xq_fo, xf_1, xf_2, xs_1, xs_2, xs_same, xq_so, xj_1, xj_2, xj_same, xq_jo, xq_sa1, xq_same, xq_other, upd_s, oI_n, oI_s, xv_0, xv_1, xv_2, xv_3, xm_p1, xm_p2, xq_fp, xq_fn, List.filter_nil, Nat.reduceBEq, Bool.not_true, Bool.not_false, Bool.and_true, Bool.and_false, Bool.false_and, Bool.true_and, if_true, if_false, Bool.false_eq_true, reduceIte, xc_i, xc_j, xc_r, xc_n, List.nil_append, List.cons_append, Option.toList_some, Option.toList_none, s45, xf_102_3 F5, xf_102_60 F5, e147]
        refine xm_go_wk (by simp [Value.category]) (ih (k + 1) _ (by omega) (Fr_si f5 (by simp)) (fun i hi => ?_))
        by_cases z : i = k
        · subst z; rw [xs_same, upd_s]
        · rw [xs_same, upd_o z]; exact hr i (by omega)
    exact xm_go_wk (by simp [Value.category]) (key ((bl.length + 7) / 8) 0 h4 (by omega) Fr_rf (fun i hi => absurd hi (Nat.not_lt_zero _)))
  · with_reducible refine xm_go_blk b_X12_say_9 k_X12_say_9 ?_
    refine by_istore_n (by rw [ml_291]; decide) ?_
    refine by_aload_n rfl ?_
    refine by_iconst ci_0 ?_
    refine by_putf cn_291 fl_12_215 (by first | exact rfl | assumption) (by decide) nf_12_2 ft_12_2 (by first | rfl | assumption) (by first | rfl | assumption) ?_
    refine by_iload_n rfl ?_
    refine by_if_le 21 rfl ?_
    simp (disch := first | exact Nat.ne_of_beq_eq_false rfl | exact rfl | omega) only [nI_add, xa_sub, xa_mul, pk_div, nm_mod, xa_shr, xa_and7, xa_and1, xa_and255, xa_by_and, nI_m1, Nat.add_sub_cancel, Nat.reducePow, Nat.zero_add, Nat.add_zero, Nat.reduceAdd, Nat.reduceMul, Nat.reduceSub, xf_same, xq_ff, xq_fo, xf_1, xf_2, xs_1, xs_2, xs_same, xq_so, xj_1, xj_2, xj_same, xq_jo, xq_sa1, xq_same, xq_other, upd_s, oI_n, oI_s, xv_0, xv_1, xv_2, xv_3, xm_p1, xm_p2, xq_fp, xq_fn, List.filter_nil, Nat.reduceBEq, Bool.not_true, Bool.not_false, Bool.and_true, Bool.and_false, Bool.false_and, Bool.true_and, if_true, if_false, Bool.false_eq_true, reduceIte, xc_i, xc_j, xc_r, xc_n, List.nil_append, List.cons_append, Option.toList_some, Option.toList_none, nI_ltJ, nI_leJ, nI_eqJ, nI_ltz, nI_gez, nI_gtz, nI_lez, nI_eqz, m1_ltz, m1_gez, true_imp_iff, false_imp_iff, true_and, and_true, ne_eq, not_false_eq_true, not_true_eq_false, Nat.reduceEqDiff, Nat.reduceLT, Nat.reduceLeDiff]
    refine ⟨fun c => absurd c (by omega), fun c9 => ?_⟩
    with_reducible refine xm_go_blk b_X12_say_19 k_X12_say_19 ?_
    refine by_iload_n rfl ?_
    refine by_iret ry_291 (by first | rfl | assumption) ?_
    exact hp1 _ a f bl q ha hS G3 P3 s36 s0 s2
end SY
