/-! ===== what was found is the least solution ===== -/
theorem rs_some {fd : Nat → Option Ty} {t : Nat} (h : fd t ≠ none) : ∃ a, fd t = some a := by
  cases e : fd t with
  | none => exact absurd e h
  | some a => exact ⟨a, rfl⟩
theorem rs_isS {fd : Nat → Option Ty} {t : Nat} (h : fd t ≠ none) : (fd t).isSome = true := by
  obtain ⟨a, ha⟩ := rs_some h
  rw [ha]; rfl
theorem rs_least {cd fi se nu : Nat → Nat} {L : List Nat} {c : Nat} {k l r rt src tgt : Nat → Nat} {es : List (Nat × Nat)} {fd : Nat → Option Ty} (hG : ty_G c k l r rt) (h : rs_fd c k l r rt fd) (hJS : ty_JS c k l r rt es []) (hJK : ty_JK c k l r rt es []) (hS : tyS cd fi se nu L c k l r es src tgt) (hf : ∀ n ∈ L, cd n ≠ 11 → fd (rt (src n)) ≠ none ∧ fd (rt (tgt n)) ≠ none) (hk1 : ∀ n ∈ L, cd n ≤ 6 → fi n ∈ L) (hk2 : ∀ n ∈ L, cd n ≤ 2 → se n ∈ L) : ty_least cd fi se nu L (fun n => rs_V rt fd (src n)) (fun n => rs_V rt fd (tgt n)) := by
  have hpd : ty_pd es rt := (hJK rt (fun t ht => (hG.1 t ht).2) (ty_pd_nil _)).2
  refine ⟨⟨fun n => rs_V_ok hG h _, fun n => rs_V_ok hG h _, fun n hn => rs_rule hG h hJK (fun e => ⟨rs_isS (hf n hn e).1, rs_isS (hf n hn e).2⟩) (fun e1 e2 => rs_isS (hf _ (hk1 n hn (by omega)) e2).1) (fun e1 e2 => rs_isS (hf _ (hk2 n hn (by omega)) e2).1) (hS.2.2.2.1 rt hpd n hn)⟩, fun S' T' hs n hn hc => ?_⟩
  obtain ⟨V, v1, v2, v3, v4⟩ := hS.2.2.2.2 S' T' hs
  obtain ⟨L1, _⟩ := hJS V v1 v2 v3
  obtain ⟨b1, b2⟩ := hS.2.2.1 n hn hc
  obtain ⟨w1, w2⟩ := v4 n hn hc
  obtain ⟨a1, ha1⟩ := rs_some (hf n hn hc).1
  obtain ⟨a2, ha2⟩ := rs_some (hf n hn hc).2
  refine ⟨?_, ?_⟩
  · show ty_le ((fd (rt (src n))).getD tO) _
    rw [ha1, ← w1, ← L1 _ b1]
    exact rs_le hG h v2 L1 ha1
  · show ty_le ((fd (rt (tgt n))).getD tO) _
    rw [ha2, ← w2, ← L1 _ b2]
    exact rs_le hG h v2 L1 ha2
/-- where nothing meets the terms nothing is a solution -/
theorem rs_none {cd fi se nu : Nat → Nat} {L : List Nat} {c : Nat} {k l r rt src tgt : Nat → Nat} {es : List (Nat × Nat)} (hJS : ty_JS c k l r rt es []) (hS : tyS cd fi se nu L c k l r es src tgt) (hb : ∀ V, ty_all c k l r V → ty_lnk c rt V → False) : ∀ S T, ¬ ty_sol cd fi se nu L S T := by
  intro S T hs
  obtain ⟨V, v1, v2, v3, v4⟩ := hS.2.2.2.2 S T hs
  exact hb V v2 (hJS V v1 v2 v3).1
/-! ===== Finder's fixed terms ===== -/
theorem fx_b : ∀ t, t < 26 → fxK t < 4 ∧ (2 ≤ fxK t → fxL t < 26 ∧ fxR t < 26) := by decide
theorem fx_w : ∀ j, j < 9 → ty_den 26 fxK fxL fxR (ty_wd j) (j + 1) := by
  intro j
  induction j with
  | zero => intro _; exact ⟨by decide, by decide, ⟨by decide, by decide⟩, ⟨by decide, by decide⟩⟩
  | succ j ih =>
    intro hj
    have e1 : fxL (j + 1 + 1) = j + 1 := by unfold fxL; rw [if_neg (by omega), if_pos (by omega)]; rfl
    have e2 : fxR (j + 1 + 1) = j + 1 := by unfold fxR; rw [if_neg (by omega), if_pos (by omega)]; rfl
    refine ⟨by omega, by unfold fxK; rw [if_neg (by omega), if_neg (by omega)], ?_, ?_⟩
    · rw [e1]; exact ih (by omega)
    · rw [e2]; exact ih (by omega)
theorem fx_m {t a b : Nat} (ht : t < 26) (h10 : 10 ≤ t) (ha : a < 9) (hb : b < 9) (e1 : fxL t = a + 1) (e2 : fxR t = b + 1) : ty_den 26 fxK fxL fxR (.mul (ty_wd a) (ty_wd b)) t := by
  refine ⟨ht, by unfold fxK; rw [if_neg (by omega), if_neg (by omega)], ?_, ?_⟩
  · rw [e1]; exact fx_w a ha
  · rw [e2]; exact fx_w b hb
theorem fx_den : ∀ s m, s ≤ 10 → m < 4 → ty_den 26 fxK fxL fxR (ty_shp s m) (shT s m) := by
  intro s m hs hm
  rcases sh_cs (Nat.lt_succ_of_le hs) with rfl | rfl | rfl | rfl | rfl | rfl | rfl | rfl | rfl | rfl | rfl
  · exact ⟨by show 0 < 26; decide, by show fxK 0 = 1; decide⟩
  · exact fx_w 0 (by decide)
  · have := fx_w (2 + m) (by omega); rw [show 2 + m + 1 = 3 + m by omega] at this; exact this
  · have := fx_w (3 + m) (by omega); rw [show 3 + m + 1 = 4 + m by omega] at this; exact this
  · have := fx_w (4 + m) (by omega); rw [show 4 + m + 1 = 5 + m by omega] at this; exact this
  · have := fx_w (5 + m) (by omega); rw [show 5 + m + 1 = 6 + m by omega] at this; exact this
  · exact fx_w 3 (by decide)
  · refine fx_m (t := 10 + m) (by omega) (by omega) (by decide) (by omega) ?_ ?_
    · unfold fxL; rw [if_neg (by omega), if_neg (by omega), if_pos (by omega)]
    · unfold fxR; rw [if_neg (by omega), if_neg (by omega), if_pos (by omega)]; omega
  · refine fx_m (t := 14 + m) (by omega) (by omega) (by decide) (by omega) ?_ ?_
    · unfold fxL; rw [if_neg (by omega), if_neg (by omega), if_pos (by omega)]
    · unfold fxR; rw [if_neg (by omega), if_neg (by omega), if_neg (by omega), if_pos (by omega)]; omega
  · refine fx_m (t := 18 + m) (by omega) (by omega) (by omega) (by omega) ?_ ?_
    · unfold fxL; rw [if_neg (by omega), if_neg (by omega), if_neg (by omega), if_pos (by omega)]; omega
    · unfold fxR; rw [if_neg (by omega), if_neg (by omega), if_neg (by omega), if_neg (by omega), if_pos (by omega)]; omega
  · refine fx_m (t := 22 + m) (by omega) (by omega) (by decide) (by omega) ?_ ?_
    · unfold fxL; rw [if_neg (by omega), if_neg (by omega), if_neg (by omega), if_neg (by omega)]
    · unfold fxR; rw [if_neg (by omega), if_neg (by omega), if_neg (by omega), if_neg (by omega), if_neg (by omega)]; omega
def fxV (t : Nat) : Ty := if t = 0 then tO else if t < 10 then ty_wd (t - 1) else .mul (ty_wd (fxL t - 1)) (ty_wd (fxR t - 1))
theorem fx_tab : ∀ t, t < 26 → (10 ≤ t → 1 ≤ fxL t ∧ fxL t < 10 ∧ 1 ≤ fxR t ∧ fxR t < 10) ∧ (2 ≤ t → t < 10 → fxL t = t - 1 ∧ fxR t = t - 1) := by decide
theorem fx_tyS {cd fi se nu src tgt : Nat → Nat} : tyS cd fi se nu [] 26 fxK fxL fxR [] src tgt := by
  refine ⟨fx_b, fun q hq => absurd hq (by simp), fun n hn => absurd hn (by simp), fun f _ n hn => absurd hn (by simp), fun S T _ => ⟨fxV, fun t => ?_, fun t ht => ?_, ty_pd_nil _, fun n hn => absurd hn (by simp)⟩⟩
  · unfold fxV
    split
    · exact rfl
    · split
      · exact ty_wd_ok _
      · exact ⟨ty_wd_ok _, ty_wd_ok _⟩
  · obtain ⟨a1, a2⟩ := fx_tab t ht
    rcases (by omega : t = 0 ∨ t = 1 ∨ (2 ≤ t ∧ t < 10) ∨ 10 ≤ t) with rfl | rfl | ⟨q1, q2⟩ | q
    · exact ⟨fun _ => rfl, fun z => absurd z (by decide), fun z => absurd z (by decide)⟩
    · exact ⟨fun z => absurd z (by decide), fun _ => rfl, fun z => absurd z (by decide)⟩
    · have hk : fxK t = 3 := by unfold fxK; rw [if_neg (by omega), if_neg (by omega)]
      rw [hk]
      refine ⟨nofun, nofun, fun _ => ?_⟩
      rw [(a2 q1 q2).1, (a2 q1 q2).2]
      obtain ⟨p, rfl⟩ : ∃ p, t = p + 2 := ⟨t - 2, by omega⟩
      unfold fxV
      rw [if_neg (by omega), if_pos q2, if_neg (by omega), if_pos (by omega)]
      rfl
    · have hk : fxK t = 3 := by unfold fxK; rw [if_neg (by omega), if_neg (by omega)]
      rw [hk]
      obtain ⟨b1, b2, b3, b4⟩ := a1 q
      refine ⟨nofun, nofun, fun _ => ?_⟩
      unfold fxV
      rw [if_neg (by omega), if_neg (by omega), if_neg (by omega), if_pos b2, if_neg (by omega), if_pos b4]
theorem fx_gr {h : xm_H} (h1 : h.2.2 15 6 = .int (nI 26)) (hA : fxA h) (hu : ∀ t, t < 26 → h.1 19 t = nI t ∧ h.1 20 t = -1) : gr h 26 fxK fxL fxR id [] := by
  refine ⟨h1, fun t ht => ⟨(hA t ht).1, (fx_b t ht).1, fun q => ⟨((hA t ht).2 q).1, ((hA t ht).2 q).2, ((fx_b t ht).2 q).1, ((fx_b t ht).2 q).2⟩⟩, ⟨id, fun _ => 0, 0, fun t ht => (hu t ht).1, fun t ht => ⟨ht, ht, rfl, rfl, Iff.rfl, Nat.le_refl _, fun q => absurd rfl q⟩, by decide⟩, fun V _ _ _ => ⟨fun _ _ => rfl, ty_pd_nil _⟩, fun f _ _ => ⟨fun t _ _ => ⟨rfl, fun _ => ⟨rfl, rfl⟩⟩, ty_pd_nil _⟩, fun t ht => (hu t ht).2⟩
section SV
variable {sc : xm_Sc} {d pp : Nat} {h : xm_H} {post : xm_Po}
theorem sp_tclear (hF : XF h) (hpp : pp = 52 ∨ pp = 77) (hp : ∀ h', Fr [pp + 23] [(pp + 14, 0)] h h' → tyT h' pp 0 (fun _ => tO) (fun _ => 0) (fun _ => 0) (fun _ => 0) → post none h') : xm_T (XE sc) (d + 1) 165 [.ref (pp + 14)] h post := by
  have key : ∀ (j i : Nat) (h1 : xm_H), i + j = 2048 → Fr [pp + 23] [(pp + 14, 0)] h h1 → h1.2.2 (pp + 14) 0 = .int (nI 0) → (∀ q, q < i → h1.1 (pp + 23) q = -1) → xm_go (XE sc) (xm_T (XE sc) d) 165 post 7 [(1, .int (nI i)), (0, .ref (pp + 14))] [] h1 := by
    intro j
    induction j with
    | zero =>
      intro i h1 hi hf h0 hq
      have : i = 2048 := by omega
      subst this
      with_reducible refine xm_go_blk b_X10_clear_7 k_X10_clear_7 ?_
      refine by_iload_n rfl ?_
      refine by_sipush cs_2048 ?_
      refine by_ic_ge 27 rfl ?_
      simp (disch := first | exact Nat.ne_of_beq_eq_false rfl | exact rfl | omega) only [nI_add, xa_sub, xa_mul, pk_div, nm_mod, xa_shr, xa_and7, xa_and1, xa_and255, xa_by_and, nI_m1, Nat.add_sub_cancel, Nat.reducePow, Nat.zero_add, Nat.add_zero, Nat.reduceAdd, Nat.reduceMul, Nat.reduceSub, xf_same, xq_ff, xq_fo, xf_1, xf_2, xs_1, xs_2, xs_same, xq_so, xj_1, xj_2, xj_same, xq_jo, xq_sa1, xq_same, xq_other, upd_s, oI_n, oI_s, xv_0, xv_1, xv_2, xv_3, xm_p1, xm_p2, xq_fp, xq_fn, List.filter_nil, Nat.reduceBEq, Bool.not_true, Bool.not_false, Bool.and_true, Bool.and_false, Bool.false_and, Bool.true_and, if_true, if_false, Bool.false_eq_true, reduceIte, xc_i, xc_j, xc_r, xc_n, List.nil_append, List.cons_append, Option.toList_some, Option.toList_none, nI_ltJ, nI_leJ, nI_eqJ, nI_ltz, nI_gez, nI_gtz, nI_lez, nI_eqz, m1_ltz, m1_gez, true_imp_iff, false_imp_iff, true_and, and_true, ne_eq, not_false_eq_true, not_true_eq_false, Nat.reduceEqDiff, Nat.reduceLT, Nat.reduceLeDiff]
      with_reducible refine xm_go_blk b_X10_clear_27 k_X10_clear_27 ?_
      refine by_ret ry_165 ?_
      exact hp h1 hf ⟨h0, fun i hi => absurd hi (by omega), fun i j hi => absurd hi (by omega), hc_0 hq (fun i hi => absurd hi (by omega))⟩
    | succ j ih =>
      intro i h1 hi hf h0 hq
      have hF1 : XF h1 := Fr_XF hF hf (by rcases hpp with rfl | rfl <;> decide +kernel)
      with_reducible refine xm_go_blk b_X10_clear_7 k_X10_clear_7 ?_
      refine by_iload_n rfl ?_
      refine by_sipush cs_2048 ?_
      refine by_ic_ge 27 rfl ?_
      simp (disch := first | exact Nat.ne_of_beq_eq_false rfl | exact rfl | omega) only [nI_add, xa_sub, xa_mul, pk_div, nm_mod, xa_shr, xa_and7, xa_and1, xa_and255, xa_by_and, nI_m1, Nat.add_sub_cancel, Nat.reducePow, Nat.zero_add, Nat.add_zero, Nat.reduceAdd, Nat.reduceMul, Nat.reduceSub, xf_same, xq_ff, xq_fo, xf_1, xf_2, xs_1, xs_2, xs_same, xq_so, xj_1, xj_2, xj_same, xq_jo, xq_sa1, xq_same, xq_other, upd_s, oI_n, oI_s, xv_0, xv_1, xv_2, xv_3, xm_p1, xm_p2, xq_fp, xq_fn, List.filter_nil, Nat.reduceBEq, Bool.not_true, Bool.not_false, Bool.and_true, Bool.and_false, Bool.false_and, Bool.true_and, if_true, if_false, Bool.false_eq_true, reduceIte, xc_i, xc_j, xc_r, xc_n, List.nil_append, List.cons_append, Option.toList_some, Option.toList_none, nI_ltJ, nI_leJ, nI_eqJ, nI_ltz, nI_gez, nI_gtz, nI_lez, nI_eqz, m1_ltz, m1_gez, true_imp_iff, false_imp_iff, true_and, and_true, ne_eq, not_false_eq_true, not_true_eq_false, Nat.reduceEqDiff, Nat.reduceLT, Nat.reduceLeDiff, pt_9 hF1 hpp]
      refine ⟨fun c => absurd c (by omega), fun c7 => ?_⟩
      with_reducible refine xm_go_blk b_X10_clear_14 k_X10_clear_14 ?_
      refine by_aload_n rfl ?_
      refine by_getf cn_165 fl_10_37 (by first | exact rfl | assumption | exact ps_14 hpp) (by decide) ?_
      refine by_iload_n rfl ?_
      refine by_iconst ci_m1 ?_
      simp (disch := first | exact Nat.ne_of_beq_eq_false rfl | exact rfl | omega) only [nI_add, xa_sub, xa_mul, pk_div, nm_mod, xa_shr, xa_and7, xa_and1, xa_and255, xa_by_and, nI_m1, Nat.add_sub_cancel, Nat.reducePow, Nat.zero_add, Nat.add_zero, Nat.reduceAdd, Nat.reduceMul, Nat.reduceSub, xf_same, xq_ff, xq_fo, xf_1, xf_2, xs_1, xs_2, xs_same, xq_so, xj_1, xj_2, xj_same, xq_jo, xq_sa1, xq_same, xq_other, upd_s, oI_n, oI_s, pt_9 hF1 hpp]
      refine by_iast (by first | exact rfl | assumption | exact ps_1 hpp | exact ps_2 hpp | exact ps_3 hpp | exact ps_4 hpp | exact ps_5 hpp | exact ps_6 hpp | exact ps_7 hpp | exact ps_8 hpp | exact ps_9 hpp | exact ps_10 hpp | exact ps_11 hpp | exact ps_15 hpp | exact ps_16 hpp | exact ps_17 hpp | exact ps_18 hpp | exact ps_19 hpp | exact ps_21 hpp | exact ps_22 hpp | exact ps_23 hpp | exact ps_24 hpp) ⟨by omega, by omega⟩ ?_
      refine by_iinc (by rw [ml_165]; decide) rfl ci_1 ?_
      refine by_goto 7 rfl ?_
      simp (disch := first | exact Nat.ne_of_beq_eq_false rfl | exact rfl | omega) only [nI_add, xa_sub, xa_mul, pk_div, nm_mod, xa_shr, xa_and7, xa_and1, xa_and255, xa_by_and, nI_m1, Nat.add_sub_cancel, Nat.reducePow, Nat.zero_add, Nat.add_zero, Nat.reduceAdd, Nat.reduceMul, Nat.reduceSub, xf_same, xq_ff, xq_fo, xf_1, xf_2, xs_1, xs_2, xs_same, xq_so, xj_1, xj_2, xj_same, xq_jo, xq_sa1, xq_same, xq_other, upd_s, oI_n, oI_s, xv_0, xv_1, xv_2, xv_3, xm_p1, xm_p2, xq_fp, xq_fn, List.filter_nil, Nat.reduceBEq, Bool.not_true, Bool.not_false, Bool.and_true, Bool.and_false, Bool.false_and, Bool.true_and, if_true, if_false, Bool.false_eq_true, reduceIte, xc_i, xc_j, xc_r, xc_n, List.nil_append, List.cons_append, Option.toList_some, Option.toList_none, pt_9 hF1 hpp]
      refine xm_go_wk (by simp [Value.category]) (ih (i + 1) _ (by omega) (Fr_si hf (by simp)) h0 (fun q hq' => ?_))
      by_cases e : q = i
      · subst e
        rw [xs_same, upd_s]
      · rw [xs_same, upd_o e]; exact hq q (by omega)
  refine xq_in rfl ?_
  simp only [xq_a0, xq_aI, xq_aJ, xq_aR, Nat.reduceAdd]
  with_reducible refine xm_go_blk b_X10_clear_0 k_X10_clear_0 ?_
  refine by_aload_n rfl ?_
  refine by_iconst ci_0 ?_
  refine by_putf cn_165 fl_10_43 (by first | exact rfl | assumption | exact ps_14 hpp) (by decide) nf_10_0 ft_10_0 (by first | rfl | assumption) (by first | rfl | assumption) ?_
  refine by_iconst ci_0 ?_
  refine by_istore_n (by rw [ml_165]; decide) ?_
  refine by_nil ?_
  simp (disch := first | exact Nat.ne_of_beq_eq_false rfl | exact rfl | omega) only [nI_add, xa_sub, xa_mul, pk_div, nm_mod, xa_shr, xa_and7, xa_and1, xa_and255, xa_by_and, nI_m1, Nat.add_sub_cancel, Nat.reducePow, Nat.zero_add, Nat.add_zero, Nat.reduceAdd, Nat.reduceMul, Nat.reduceSub, xf_same, xq_ff, xq_fo, xf_1, xf_2, xs_1, xs_2, xs_same, xq_so, xj_1, xj_2, xj_same, xq_jo, xq_sa1, xq_same, xq_other, upd_s, oI_n, oI_s, xv_0, xv_1, xv_2, xv_3, xm_p1, xm_p2, xq_fp, xq_fn, List.filter_nil, Nat.reduceBEq, Bool.not_true, Bool.not_false, Bool.and_true, Bool.and_false, Bool.false_and, Bool.true_and, if_true, if_false, Bool.false_eq_true, reduceIte, xc_i, xc_j, xc_r, xc_n, List.nil_append, List.cons_append, Option.toList_some, Option.toList_none]
  exact xm_go_wk (by simp [Value.category]) (key 2048 0 _ rfl (Fr_sf Fr_rf (by simp)) (by simp only [xf_same]) (fun q hq => absurd hq (by omega)))
end SV
