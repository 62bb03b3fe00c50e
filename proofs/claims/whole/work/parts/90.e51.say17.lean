/-! ===== say: the reference begins a turn ===== -/
abbrev smbR : List Nat := [105, 106, 107, 108, 109, 110, 113, 114, 115, 116, 159, 160, 161]
abbrev smbT : List (Nat × Nat) := [(102, 5), (102, 14), (102, 36), (102, 81), (102, 82), (102, 83), (102, 84), (102, 88)]
theorem smb_fin : xt_fin.all (fun q => !(smbT.contains (q.1, q.2.1))) = true := by decide +kernel
/-- what waits, in the reference's rows -/
def ndn (G : sG) (n : Nat) : Nat := if sCd G n ≤ 2 ∧ sC1 G n = none then 2 else 1
def mkS (h : xm_H) (G : sG) : List (Option Nat) → Prop
  | [] => True
  | o :: r => (match o with
    | none => h.1 159 r.length = -1
    | some n => h.1 159 r.length = nI n ∧ h.1 160 r.length = nI (ndn G n)) ∧ mkS h G r
theorem mkS_o {h h' : xm_H} {G G' : sG} : ∀ {st : List (Option Nat)}, mkS h G st → (∀ j, j < st.length → h'.1 159 j = h.1 159 j ∧ h'.1 160 j = h.1 160 j) → (∀ n ∈ stl st, sCd G' n = sCd G n ∧ sC1 G' n = sC1 G n) → mkS h' G' st
  | [], _, _, _ => trivial
  | none :: r, hs, hj, hn => ⟨by show h'.1 159 r.length = -1; rw [(hj r.length (by simp)).1]; exact hs.1, mkS_o hs.2 (fun j h1 => hj j (by simp; omega)) hn⟩
  | some n :: r, hs, hj, hn => by
    refine ⟨?_, mkS_o hs.2 (fun j h1 => hj j (by simp; omega)) (fun m hm => hn m (List.mem_cons_of_mem _ hm))⟩
    show h'.1 159 r.length = nI n ∧ h'.1 160 r.length = nI (ndn G' n)
    obtain ⟨e1, e2⟩ := hn n List.mem_cons_self
    rw [(hj r.length (by simp)).1, (hj r.length (by simp)).2]
    unfold ndn
    rw [e1, e2]
    exact hs.1
/-- what a turn of the reference finds, the place aside -/
def mT1 (h : xm_H) (t : List Nat) (NL : List (List Nat × Nat)) (G : sG) (st : List (Option Nat)) : Prop := XF h ∧ mtp h t ∧ tgM h ∧ nmM h NL ∧ h.2.2 102 5 = .int (nI (sCt G)) ∧ mG0 h G ∧ h.2.2 102 88 = .int (nI st.length) ∧ mkS h G st ∧ h.2.2 102 81 = .int (nI 0)
section SY
variable {sc : xm_Sc} {d n c p : Nat} {t : List Nat} {NL : List (List Nat × Nat)} {G : sG} {st : List (Option Nat)} {h h' : xm_H} {post : xm_Po}
theorem tgM_fr {S : List Nat} {T : List (Nat × Nat)} (hm : tgM h) (hf : Fr S T h h') (h1 : 146 ∉ S) : tgM h' := fun c hc => by rw [hf.2.1 _ h1]; exact hm c hc
theorem nmM_fr {S : List Nat} {T : List (Nat × Nat)} (hm : nmM h NL) (hf : Fr S T h h') (h1 : 157 ∉ S) (h2 : 158 ∉ S) (h3 : (102, 85) ∉ T) : nmM h' NL :=
  ⟨by rw [hf.2.2 _ _ h3]; exact hm.1, hm.2.1, fun k hk => by rw [hf.2.1 _ h1, hf.1 _ h2]; exact hm.2.2 k hk⟩
/-- words alone changed -/
theorem mT1_w (hT : mT1 h t NL G st) (hf : Fr [] smwT h h') : mT1 h' t NL G st := by
  obtain ⟨a1, a2, a3, a4, a5, a6, a7, a8, a9⟩ := hT
  exact ⟨Fr_XF a1 hf (by decide +kernel), mtp_fr a2 hf (by simp) (by simp), tgM_fr a3 hf (by simp), nmM_fr a4 hf (by simp) (by simp) (by simp), by rw [hf.2.2 _ _ (by simp)]; exact a5, mG0_fr a6 hf (by simp) (by simp), by rw [hf.2.2 _ _ (by simp)]; exact a7, mkS_o a8 (fun j _ => ⟨by rw [hf.1 _ (by simp)], by rw [hf.1 _ (by simp)]⟩) (fun _ _ => ⟨rfl, rfl⟩), by rw [hf.2.2 _ _ (by simp)]; exact a9⟩
/-- one more node was made -/
theorem mT1_add {nu ln : Nat} {hw : Nat → Nat} (hT : mT1 h t NL G st) (hst : ∀ m ∈ stl st, m < sCt G) (hf : Fr [105, 106, 107, 108, 109, 110] ((102, 5) :: smwT) h h') (c5 : h'.2.2 102 5 = .int (nI (sCt G + 1))) (hg : mG0 h' (sAdd G c nu ln hw)) : mT1 h' t NL (sAdd G c nu ln hw) st := by
  obtain ⟨a1, a2, a3, a4, a5, a6, a7, a8, a9⟩ := hT
  refine ⟨Fr_XF a1 hf (by decide +kernel), mtp_fr a2 hf (by simp) (by simp), tgM_fr a3 hf (by simp), nmM_fr a4 hf (by simp) (by simp) (by simp), c5, hg, by rw [hf.2.2 _ _ (by simp)]; exact a7, mkS_o a8 (fun j _ => ⟨by rw [hf.1 _ (by simp)], by rw [hf.1 _ (by simp)]⟩) (fun m hm => ?_), by rw [hf.2.2 _ _ (by simp)]; exact a9⟩
  have := hst m hm
  exact ⟨sUp_o _ _ (by omega), sUp_o _ _ (by omega)⟩
/-- one more waits -/
theorem mT1_push {o : Option Nat} {x y : Int32} (hT : mT1 h t NL G st) (e : h' = xm_sf (xm_si (xm_si h 159 st.length x) 160 st.length y) 102 88 (.int (nI (st.length + 1)))) (ho : match o with
    | none => x = -1
    | some n => x = nI n ∧ y = nI (ndn G n)) : mT1 h' t NL G (o :: st) := by
  have hf : Fr [159, 160] [(102, 88)] h h' := by rw [e]; exact Fr_sf (Fr_si (Fr_si Fr_rf (by simp)) (by simp)) (by simp)
  obtain ⟨a1, a2, a3, a4, a5, a6, a7, a8, a9⟩ := hT
  have e1 : h'.1 159 st.length = x := by rw [e]; simp [xm_sf, xm_si, upd]
  have e2 : h'.1 160 st.length = y := by rw [e]; simp [xm_sf, xm_si, upd]
  refine ⟨Fr_XF a1 hf (by decide +kernel), mtp_fr a2 hf (by simp) (by simp), tgM_fr a3 hf (by simp), nmM_fr a4 hf (by simp) (by simp) (by simp), by rw [hf.2.2 _ _ (by simp)]; exact a5, mG0_fr a6 hf (by simp) (by simp), by rw [e]; simp [xm_sf, updV], ⟨?_, mkS_o a8 (fun j hj => ?_) (fun _ _ => ⟨rfl, rfl⟩)⟩, by rw [hf.2.2 _ _ (by simp)]; exact a9⟩
  · cases o with
    | none => exact e1.trans ho
    | some n => exact ⟨e1.trans ho.1, e2.trans ho.2⟩
  · have : j ≠ st.length := by omega
    rw [e]
    simp [xm_sf, xm_si, upd, this]
theorem sp_kindMade (hT : mT1 h t NL G st) (hI : sInv t NL G st) (hsa : h.2.2 102 82 = .int (nI (tkE t p))) (hfr : h.2.2 102 84 = .int (nI (tkF t p))) (hpt : p ≤ t.length) (hst : st.length + 2 ≤ p) (hc : c ≤ 12)
    (h3 : 2000 ≤ sCt G → ∀ h', Fr smbR smbT h h' → h'.2.2 102 81 = .int (nI 3) → h'.2.2 102 36 = .int (nI (tkF t p)) → post (some (.int (-1))) h')
    (h6 : ¬ 2000 ≤ sCt G → c ≤ 6 → ∀ h', Fr smbR smbT h h' → mT1 h' t NL (sAdd G c 0 0 (fun _ => 0)) (some (sCt G) :: st) → h'.2.2 102 82 = .int (nI (tkE t p)) → h'.2.2 102 36 = h.2.2 102 36 → post (some (.int (-1))) h')
    (h9 : ¬ 2000 ≤ sCt G → ¬ c ≤ 6 → c ≤ 9 → ∀ h', Fr smbR smbT h h' → mT1 h' t NL (sAdd G c 0 0 (fun _ => 0)) st → h'.2.2 102 82 = .int (nI (tkE t p)) → h'.2.2 102 36 = h.2.2 102 36 → post (some (.int (nI (sCt G)))) h')
    (hn : ¬ 2000 ≤ sCt G → ¬ c ≤ 9 → sOp t c (tkE t p) = none → ∀ h', Fr smbR smbT h h' → h'.2.2 102 81 = .int (nI 1) → h'.2.2 102 36 = .int (nI (tkF t (tkE t p))) → post (some (.int (-1))) h')
    (hy : ∀ q, ¬ 2000 ≤ sCt G → ¬ c ≤ 9 → sOp t c (tkE t p) = some q → ∀ h', Fr smbR smbT h h' → mT1 h' t NL (sAdd G c q.1 q.2.1 q.2.2) st → h'.2.2 102 82 = .int (nI (tkE t (tkE t p))) → h'.2.2 102 36 = h.2.2 102 36 → post (some (.int (nI (sCt G)))) h') : xm_T (XE sc) (d + 5) 246 [.ref 102, .int (nI c)] h post := by
  have ht8 : t.length ≤ 8192 := hT.2.1.2.2.2
  obtain ⟨⟨rk, M, hd⟩, hNL⟩ := hI
  have hN := hd.1
  have hsl := hd.2.2.1
  obtain ⟨b1, b2, b3, b4⟩ := tk_b hpt
  obtain ⟨v1, v2, v3, v4⟩ := tk_b b3
  have hT' := hT
  obtain ⟨a1, a2, a3, a4, a5, a6, a7, a8, a9⟩ := hT
  refine xq_in rfl ?_
  simp only [xq_a0, xq_aI, xq_aJ, xq_aR, Nat.reduceAdd]
  with_reducible refine xm_go_blk b_X12_kindMade_0 k_X12_kindMade_0 ?_
  refine by_aload_n rfl ?_
  refine by_iload_n rfl ?_
  refine by_inv1 cn_246 lk_12_626 (by rw [xe_cnt]; decide) is_253 np_253 cn_253 (by first | exact rfl | assumption) (Nat.le_of_ble_eq_true rfl) ?_
  refine sp_madeNode (d := d + 2) a1 a5 hN hfr a9 (fun full => ?_) (fun hlt h1 f1 c1 r1 r2 r3 r4 r5 ro => ?_)
  · with_reducible refine xm_go_blk b_X12_kindMade_5 k_X12_kindMade_5 ?_
    refine by_istore_n (by rw [ml_246]; decide) ?_
    refine by_iload_n rfl ?_
    refine by_if_ge 12 rfl ?_
    simp (disch := first | exact Nat.ne_of_beq_eq_false rfl | exact rfl | omega) only [nI_add, xa_sub, xa_mul, pk_div, nm_mod, xa_shr, xa_and7, xa_and1, xa_and255, xa_by_and, nI_m1, Nat.add_sub_cancel, Nat.reducePow, Nat.zero_add, Nat.add_zero, Nat.reduceAdd, Nat.reduceMul, Nat.reduceSub, xf_same, xq_ff, xq_fo, xf_1, xf_2, xs_1, xs_2, xs_same, xq_so, xj_1, xj_2, xj_same, xq_jo, xq_sa1, xq_same, xq_other, upd_s, oI_n, oI_s, xv_0, xv_1, xv_2, xv_3, xm_p1, xm_p2, xq_fp, xq_fn, List.filter_nil, Nat.reduceBEq, Bool.not_true, Bool.not_false, Bool.and_true, Bool.and_false, Bool.false_and, Bool.true_and, if_true, if_false, Bool.false_eq_true, reduceIte, xc_i, xc_j, xc_r, xc_n, List.nil_append, List.cons_append, Option.toList_some, Option.toList_none, nI_ltJ, nI_leJ, nI_eqJ, nI_ltz, nI_gez, nI_gtz, nI_lez, nI_eqz, m1_ltz, m1_gez, true_imp_iff, false_imp_iff, true_and, and_true, ne_eq, not_false_eq_true, not_true_eq_false, Nat.reduceEqDiff, Nat.reduceLT, Nat.reduceLeDiff]
    with_reducible refine xm_go_blk b_X12_kindMade_10 k_X12_kindMade_10 ?_
    refine by_iconst ci_m1 ?_
    refine by_iret ry_246 (by first | rfl | assumption) ?_
    exact h3 (by omega) _ (Fr_sf (Fr_sf Fr_rf (by simp)) (by simp)) (by simp [xm_sf, updV]) (by simp [xm_sf, updV])
  · have hnf : ¬ 2000 ≤ sCt G := by omega
    have F1 : XF h1 := Fr_XF a1 f1 (by decide +kernel)
    have g1 : mG0 h1 G := mG0_k a6 (fun r m hm hr => ro r m hr (by omega)) (fun j _ => by rw [f1.1 _ (by simp)])
    have gf : Fr [105, 106, 107, 108, 109, 110] ((102, 5) :: smwT) h h1 := Fr_mo f1 (by simp) (by simp)
    have sa1 : h1.2.2 102 82 = .int (nI (tkE t p)) := by rw [f1.2.2 _ _ (by simp)]; exact hsa
    have p36 : h1.2.2 102 36 = h.2.2 102 36 := f1.2.2 _ _ (by simp)
    have fb : Fr smbR smbT h h1 := Fr_mo f1 (by simp) (by simp)
    by_cases c6 : c ≤ 6
    · have T1 := mT1_add (c := c) (nu := 0) (ln := 0) (hw := fun _ => 0) hT' hsl gf c1 (mG0_new g1 r1 r2 r3 r4 r5 (fun z => by omega))
      have d1 : sCd (sAdd G c 0 0 (fun _ => 0)) (sCt G) = c := sUp_s _ _ _
      have d2 : sC1 (sAdd G c 0 0 (fun _ => 0)) (sCt G) = none := sUp_s _ _ _
      have p88 : h1.2.2 102 88 = .int (nI st.length) := T1.2.2.2.2.2.2.1
      have fin : ∀ k, k = ndn (sAdd G c 0 0 (fun _ => 0)) (sCt G) → post (some (.int (-1))) (xm_sf (xm_si (xm_si h1 159 st.length (nI (sCt G))) 160 st.length (nI k)) 102 88 (.int (nI (st.length + 1)))) := fun k hk =>
        h6 hnf c6 _ (Fr_sf (Fr_si (Fr_si fb (by simp)) (by simp)) (by simp)) (mT1_push (o := some (sCt G)) T1 rfl ⟨rfl, by rw [hk]⟩) (by simpa [xm_sf, xm_si, updV] using sa1) (by simpa [xm_sf, xm_si, updV] using p36)
      by_cases c2 : c ≤ 2
      · with_reducible refine xm_go_blk b_X12_kindMade_5 k_X12_kindMade_5 ?_
        refine by_istore_n (by rw [ml_246]; decide) ?_
        refine by_iload_n rfl ?_
        refine by_if_ge 12 rfl ?_
        simp (disch := first | exact Nat.ne_of_beq_eq_false rfl | exact rfl | omega) only [nI_add, xa_sub, xa_mul, pk_div, nm_mod, xa_shr, xa_and7, xa_and1, xa_and255, xa_by_and, nI_m1, Nat.add_sub_cancel, Nat.reducePow, Nat.zero_add, Nat.add_zero, Nat.reduceAdd, Nat.reduceMul, Nat.reduceSub, xf_same, xq_ff, xq_fo, xf_1, xf_2, xs_1, xs_2, xs_same, xq_so, xj_1, xj_2, xj_same, xq_jo, xq_sa1, xq_same, xq_other, upd_s, oI_n, oI_s, xv_0, xv_1, xv_2, xv_3, xm_p1, xm_p2, xq_fp, xq_fn, List.filter_nil, Nat.reduceBEq, Bool.not_true, Bool.not_false, Bool.and_true, Bool.and_false, Bool.false_and, Bool.true_and, if_true, if_false, Bool.false_eq_true, reduceIte, xc_i, xc_j, xc_r, xc_n, List.nil_append, List.cons_append, Option.toList_some, Option.toList_none, nI_ltJ, nI_leJ, nI_eqJ, nI_ltz, nI_gez, nI_gtz, nI_lez, nI_eqz, m1_ltz, m1_gez, true_imp_iff, false_imp_iff, true_and, and_true, ne_eq, not_false_eq_true, not_true_eq_false, Nat.reduceEqDiff, Nat.reduceLT, Nat.reduceLeDiff, xf_102_89 F1, xf_102_90 F1, p88]
        with_reducible refine xm_go_blk b_X12_kindMade_12 k_X12_kindMade_12 ?_
        refine by_iload_n rfl ?_
        refine by_bipush cb_6 ?_
        refine by_ic_gt 59 rfl ?_
        simp (disch := first | exact Nat.ne_of_beq_eq_false rfl | exact rfl | omega) only [nI_add, xa_sub, xa_mul, pk_div, nm_mod, xa_shr, xa_and7, xa_and1, xa_and255, xa_by_and, nI_m1, Nat.add_sub_cancel, Nat.reducePow, Nat.zero_add, Nat.add_zero, Nat.reduceAdd, Nat.reduceMul, Nat.reduceSub, xf_same, xq_ff, xq_fo, xf_1, xf_2, xs_1, xs_2, xs_same, xq_so, xj_1, xj_2, xj_same, xq_jo, xq_sa1, xq_same, xq_other, upd_s, oI_n, oI_s, xv_0, xv_1, xv_2, xv_3, xm_p1, xm_p2, xq_fp, xq_fn, List.filter_nil, Nat.reduceBEq, Bool.not_true, Bool.not_false, Bool.and_true, Bool.and_false, Bool.false_and, Bool.true_and, if_true, if_false, Bool.false_eq_true, reduceIte, xc_i, xc_j, xc_r, xc_n, List.nil_append, List.cons_append, Option.toList_some, Option.toList_none, nI_ltJ, nI_leJ, nI_eqJ, nI_ltz, nI_gez, nI_gtz, nI_lez, nI_eqz, m1_ltz, m1_gez, true_imp_iff, false_imp_iff, true_and, and_true, ne_eq, not_false_eq_true, not_true_eq_false, Nat.reduceEqDiff, Nat.reduceLT, Nat.reduceLeDiff, xf_102_89 F1, xf_102_90 F1, p88]
        refine ⟨fun c => absurd c (by omega), fun c12 => ?_⟩
        with_reducible refine xm_go_blk b_X12_kindMade_18 k_X12_kindMade_18 ?_
        refine by_aload_n rfl ?_
        refine by_getf cn_246 fl_12_184 (by first | exact rfl | assumption) (by decide) ?_
        refine by_aload_n rfl ?_
        refine by_getf cn_246 fl_12_629 (by first | exact rfl | assumption) (by decide) ?_
        refine by_iload_n rfl ?_
        simp (disch := first | exact Nat.ne_of_beq_eq_false rfl | exact rfl | omega) only [nI_add, xa_sub, xa_mul, pk_div, nm_mod, xa_shr, xa_and7, xa_and1, xa_and255, xa_by_and, nI_m1, Nat.add_sub_cancel, Nat.reducePow, Nat.zero_add, Nat.add_zero, Nat.reduceAdd, Nat.reduceMul, Nat.reduceSub, xf_same, xq_ff, xq_fo, xf_1, xf_2, xs_1, xs_2, xs_same, xq_so, xj_1, xj_2, xj_same, xq_jo, xq_sa1, xq_same, xq_other, upd_s, oI_n, oI_s, xf_102_89 F1, xf_102_90 F1, p88]
        refine by_iast (by first | exact rfl | assumption | exact ps_1 hpp | exact ps_2 hpp | exact ps_3 hpp | exact ps_4 hpp | exact ps_5 hpp | exact ps_6 hpp | exact ps_7 hpp | exact ps_8 hpp | exact ps_9 hpp | exact ps_10 hpp | exact ps_11 hpp | exact ps_15 hpp | exact ps_16 hpp | exact ps_17 hpp | exact ps_18 hpp | exact ps_19 hpp | exact ps_21 hpp | exact ps_22 hpp | exact ps_23 hpp | exact ps_24 hpp) ⟨by omega, by omega⟩ ?_
        refine by_aload_n rfl ?_
        refine by_getf cn_246 fl_12_187 (by first | exact rfl | assumption) (by decide) ?_
        refine by_aload_n rfl ?_
        refine by_getf cn_246 fl_12_629 (by first | exact rfl | assumption) (by decide) ?_
        refine by_iload_n rfl ?_
        refine by_iconst ci_2 ?_
        refine by_ic_gt 45 rfl ?_
        simp (disch := first | exact Nat.ne_of_beq_eq_false rfl | exact rfl | omega) only [nI_add, xa_sub, xa_mul, pk_div, nm_mod, xa_shr, xa_and7, xa_and1, xa_and255, xa_by_and, nI_m1, Nat.add_sub_cancel, Nat.reducePow, Nat.zero_add, Nat.add_zero, Nat.reduceAdd, Nat.reduceMul, Nat.reduceSub, xf_same, xq_ff, xq_fo, xf_1, xf_2, xs_1, xs_2, xs_same, xq_so, xj_1, xj_2, xj_same, xq_jo, xq_sa1, xq_same, xq_other, upd_s, oI_n, oI_s, xv_0, xv_1, xv_2, xv_3, xm_p1, xm_p2, xq_fp, xq_fn, List.filter_nil, Nat.reduceBEq, Bool.not_true, Bool.not_false, Bool.and_true, Bool.and_false, Bool.false_and, Bool.true_and, if_true, if_false, Bool.false_eq_true, reduceIte, xc_i, xc_j, xc_r, xc_n, List.nil_append, List.cons_append, Option.toList_some, Option.toList_none, nI_ltJ, nI_leJ, nI_eqJ, nI_ltz, nI_gez, nI_gtz, nI_lez, nI_eqz, m1_ltz, m1_gez, true_imp_iff, false_imp_iff, true_and, and_true, ne_eq, not_false_eq_true, not_true_eq_false, Nat.reduceEqDiff, Nat.reduceLT, Nat.reduceLeDiff, xf_102_89 F1, xf_102_90 F1, p88]
        refine ⟨fun c => absurd c (by omega), fun c18 => ?_⟩
        with_reducible refine xm_go_blk b_X12_kindMade_41 k_X12_kindMade_41 ?_
        refine by_iconst ci_2 ?_
        refine by_goto 46 rfl ?_
        with_reducible refine xm_go_blk b_X12_kindMade_46 k_X12_kindMade_46 ?_
        refine by_iast (by first | exact rfl | assumption | exact ps_1 hpp | exact ps_2 hpp | exact ps_3 hpp | exact ps_4 hpp | exact ps_5 hpp | exact ps_6 hpp | exact ps_7 hpp | exact ps_8 hpp | exact ps_9 hpp | exact ps_10 hpp | exact ps_11 hpp | exact ps_15 hpp | exact ps_16 hpp | exact ps_17 hpp | exact ps_18 hpp | exact ps_19 hpp | exact ps_21 hpp | exact ps_22 hpp | exact ps_23 hpp | exact ps_24 hpp) ⟨by omega, by omega⟩ ?_
        refine by_aload_n rfl ?_
        refine by_dup rfl ?_
        refine by_getf cn_246 fl_12_629 (by first | exact rfl | assumption) (by decide) ?_
        refine by_iconst ci_1 ?_
        simp (disch := first | exact Nat.ne_of_beq_eq_false rfl | exact rfl | omega) only [nI_add, xa_sub, xa_mul, pk_div, nm_mod, xa_shr, xa_and7, xa_and1, xa_and255, xa_by_and, nI_m1, Nat.add_sub_cancel, Nat.reducePow, Nat.zero_add, Nat.add_zero, Nat.reduceAdd, Nat.reduceMul, Nat.reduceSub, xf_same, xq_ff, xq_fo, xf_1, xf_2, xs_1, xs_2, xs_same, xq_so, xj_1, xj_2, xj_same, xq_jo, xq_sa1, xq_same, xq_other, upd_s, oI_n, oI_s, xf_102_89 F1, xf_102_90 F1, p88]
        refine by_iadd ?_
        refine by_putf cn_246 fl_12_629 (by first | exact rfl | assumption) (by decide) nf_12_88 ft_12_88 (by first | rfl | assumption) (by first | rfl | assumption) ?_
        refine by_iconst ci_m1 ?_
        simp (disch := first | exact Nat.ne_of_beq_eq_false rfl | exact rfl | omega) only [nI_add, xa_sub, xa_mul, pk_div, nm_mod, xa_shr, xa_and7, xa_and1, xa_and255, xa_by_and, nI_m1, Nat.add_sub_cancel, Nat.reducePow, Nat.zero_add, Nat.add_zero, Nat.reduceAdd, Nat.reduceMul, Nat.reduceSub, xf_same, xq_ff, xq_fo, xf_1, xf_2, xs_1, xs_2, xs_same, xq_so, xj_1, xj_2, xj_same, xq_jo, xq_sa1, xq_same, xq_other, upd_s, oI_n, oI_s, xf_102_89 F1, xf_102_90 F1, p88]
        refine by_iret ry_246 (by first | rfl | assumption) ?_
        exact fin 2 (by unfold ndn; rw [d1, d2, if_pos ⟨c2, rfl⟩])
      · with_reducible refine xm_go_blk b_X12_kindMade_5 k_X12_kindMade_5 ?_
        refine by_istore_n (by rw [ml_246]; decide) ?_
        refine by_iload_n rfl ?_
        refine by_if_ge 12 rfl ?_
        simp (disch := first | exact Nat.ne_of_beq_eq_false rfl | exact rfl | omega) only [nI_add, xa_sub, xa_mul, pk_div, nm_mod, xa_shr, xa_and7, xa_and1, xa_and255, xa_by_and, nI_m1, Nat.add_sub_cancel, Nat.reducePow, Nat.zero_add, Nat.add_zero, Nat.reduceAdd, Nat.reduceMul, Nat.reduceSub, xf_same, xq_ff, xq_fo, xf_1, xf_2, xs_1, xs_2, xs_same, xq_so, xj_1, xj_2, xj_same, xq_jo, xq_sa1, xq_same, xq_other, upd_s, oI_n, oI_s, xv_0, xv_1, xv_2, xv_3, xm_p1, xm_p2, xq_fp, xq_fn, List.filter_nil, Nat.reduceBEq, Bool.not_true, Bool.not_false, Bool.and_true, Bool.and_false, Bool.false_and, Bool.true_and, if_true, if_false, Bool.false_eq_true, reduceIte, xc_i, xc_j, xc_r, xc_n, List.nil_append, List.cons_append, Option.toList_some, Option.toList_none, nI_ltJ, nI_leJ, nI_eqJ, nI_ltz, nI_gez, nI_gtz, nI_lez, nI_eqz, m1_ltz, m1_gez, true_imp_iff, false_imp_iff, true_and, and_true, ne_eq, not_false_eq_true, not_true_eq_false, Nat.reduceEqDiff, Nat.reduceLT, Nat.reduceLeDiff, xf_102_89 F1, xf_102_90 F1, p88]
        with_reducible refine xm_go_blk b_X12_kindMade_12 k_X12_kindMade_12 ?_
        refine by_iload_n rfl ?_
        refine by_bipush cb_6 ?_
        refine by_ic_gt 59 rfl ?_
        simp (disch := first | exact Nat.ne_of_beq_eq_false rfl | exact rfl | omega) only [nI_add, xa_sub, xa_mul, pk_div, nm_mod, xa_shr, xa_and7, xa_and1, xa_and255, xa_by_and, nI_m1, Nat.add_sub_cancel, Nat.reducePow, Nat.zero_add, Nat.add_zero, Nat.reduceAdd, Nat.reduceMul, Nat.reduceSub, xf_same, xq_ff, xq_fo, xf_1, xf_2, xs_1, xs_2, xs_same, xq_so, xj_1, xj_2, xj_same, xq_jo, xq_sa1, xq_same, xq_other, upd_s, oI_n, oI_s, xv_0, xv_1, xv_2, xv_3, xm_p1, xm_p2, xq_fp, xq_fn, List.filter_nil, Nat.reduceBEq, Bool.not_true, Bool.not_false, Bool.and_true, Bool.and_false, Bool.false_and, Bool.true_and, if_true, if_false, Bool.false_eq_true, reduceIte, xc_i, xc_j, xc_r, xc_n, List.nil_append, List.cons_append, Option.toList_some, Option.toList_none, nI_ltJ, nI_leJ, nI_eqJ, nI_ltz, nI_gez, nI_gtz, nI_lez, nI_eqz, m1_ltz, m1_gez, true_imp_iff, false_imp_iff, true_and, and_true, ne_eq, not_false_eq_true, not_true_eq_false, Nat.reduceEqDiff, Nat.reduceLT, Nat.reduceLeDiff, xf_102_89 F1, xf_102_90 F1, p88]
        refine ⟨fun c => absurd c (by omega), fun c12 => ?_⟩
        with_reducible refine xm_go_blk b_X12_kindMade_18 k_X12_kindMade_18 ?_
        refine by_aload_n rfl ?_
        refine by_getf cn_246 fl_12_184 (by first | exact rfl | assumption) (by decide) ?_
        refine by_aload_n rfl ?_
        refine by_getf cn_246 fl_12_629 (by first | exact rfl | assumption) (by decide) ?_
        refine by_iload_n rfl ?_
        simp (disch := first | exact Nat.ne_of_beq_eq_false rfl | exact rfl | omega) only [nI_add, xa_sub, xa_mul, pk_div, nm_mod, xa_shr, xa_and7, xa_and1, xa_and255, xa_by_and, nI_m1, Nat.add_sub_cancel, Nat.reducePow, Nat.zero_add, Nat.add_zero, Nat.reduceAdd, Nat.reduceMul, Nat.reduceSub, xf_same, xq_ff, xq_fo, xf_1, xf_2, xs_1, xs_2, xs_same, xq_so, xj_1, xj_2, xj_same, xq_jo, xq_sa1, xq_same, xq_other, upd_s, oI_n, oI_s, xf_102_89 F1, xf_102_90 F1, p88]
        refine by_iast (by first | exact rfl | assumption | exact ps_1 hpp | exact ps_2 hpp | exact ps_3 hpp | exact ps_4 hpp | exact ps_5 hpp | exact ps_6 hpp | exact ps_7 hpp | exact ps_8 hpp | exact ps_9 hpp | exact ps_10 hpp | exact ps_11 hpp | exact ps_15 hpp | exact ps_16 hpp | exact ps_17 hpp | exact ps_18 hpp | exact ps_19 hpp | exact ps_21 hpp | exact ps_22 hpp | exact ps_23 hpp | exact ps_24 hpp) ⟨by omega, by omega⟩ ?_
        refine by_aload_n rfl ?_
        refine by_getf cn_246 fl_12_187 (by first | exact rfl | assumption) (by decide) ?_
        refine by_aload_n rfl ?_
        refine by_getf cn_246 fl_12_629 (by first | exact rfl | assumption) (by decide) ?_
        refine by_iload_n rfl ?_
        refine by_iconst ci_2 ?_
        refine by_ic_gt 45 rfl ?_
        simp (disch := first | exact Nat.ne_of_beq_eq_false rfl | exact rfl | omega) only [nI_add, xa_sub, xa_mul, pk_div, nm_mod, xa_shr, xa_and7, xa_and1, xa_and255, xa_by_and, nI_m1, Nat.add_sub_cancel, Nat.reducePow, Nat.zero_add, Nat.add_zero, Nat.reduceAdd, Nat.reduceMul, Nat.reduceSub, xf_same, xq_ff, xq_fo, xf_1, xf_2, xs_1, xs_2, xs_same, xq_so, xj_1, xj_2, xj_same, xq_jo, xq_sa1, xq_same, xq_other, upd_s, oI_n, oI_s, xv_0, xv_1, xv_2, xv_3, xm_p1, xm_p2, xq_fp, xq_fn, List.filter_nil, Nat.reduceBEq, Bool.not_true, Bool.not_false, Bool.and_true, Bool.and_false, Bool.false_and, Bool.true_and, if_true, if_false, Bool.false_eq_true, reduceIte, xc_i, xc_j, xc_r, xc_n, List.nil_append, List.cons_append, Option.toList_some, Option.toList_none, nI_ltJ, nI_leJ, nI_eqJ, nI_ltz, nI_gez, nI_gtz, nI_lez, nI_eqz, m1_ltz, m1_gez, true_imp_iff, false_imp_iff, true_and, and_true, ne_eq, not_false_eq_true, not_true_eq_false, Nat.reduceEqDiff, Nat.reduceLT, Nat.reduceLeDiff, xf_102_89 F1, xf_102_90 F1, p88]
        refine ⟨fun c18 => ?_, fun c => absurd (by omega) c⟩
        with_reducible refine xm_go_blk b_X12_kindMade_45 k_X12_kindMade_45 ?_
        refine by_iconst ci_1 ?_
        refine by_nil ?_
        with_reducible refine xm_go_blk b_X12_kindMade_46 k_X12_kindMade_46 ?_
        refine by_iast (by first | exact rfl | assumption | exact ps_1 hpp | exact ps_2 hpp | exact ps_3 hpp | exact ps_4 hpp | exact ps_5 hpp | exact ps_6 hpp | exact ps_7 hpp | exact ps_8 hpp | exact ps_9 hpp | exact ps_10 hpp | exact ps_11 hpp | exact ps_15 hpp | exact ps_16 hpp | exact ps_17 hpp | exact ps_18 hpp | exact ps_19 hpp | exact ps_21 hpp | exact ps_22 hpp | exact ps_23 hpp | exact ps_24 hpp) ⟨by omega, by omega⟩ ?_
        refine by_aload_n rfl ?_
        refine by_dup rfl ?_
        refine by_getf cn_246 fl_12_629 (by first | exact rfl | assumption) (by decide) ?_
        refine by_iconst ci_1 ?_
        simp (disch := first | exact Nat.ne_of_beq_eq_false rfl | exact rfl | omega) only [nI_add, xa_sub, xa_mul, pk_div, nm_mod, xa_shr, xa_and7, xa_and1, xa_and255, xa_by_and, nI_m1, Nat.add_sub_cancel, Nat.reducePow, Nat.zero_add, Nat.add_zero, Nat.reduceAdd, Nat.reduceMul, Nat.reduceSub, xf_same, xq_ff, xq_fo, xf_1, xf_2, xs_1, xs_2, xs_same, xq_so, xj_1, xj_2, xj_same, xq_jo, xq_sa1, xq_same, xq_other, upd_s, oI_n, oI_s, xf_102_89 F1, xf_102_90 F1, p88]
        refine by_iadd ?_
        refine by_putf cn_246 fl_12_629 (by first | exact rfl | assumption) (by decide) nf_12_88 ft_12_88 (by first | rfl | assumption) (by first | rfl | assumption) ?_
        refine by_iconst ci_m1 ?_
        simp (disch := first | exact Nat.ne_of_beq_eq_false rfl | exact rfl | omega) only [nI_add, xa_sub, xa_mul, pk_div, nm_mod, xa_shr, xa_and7, xa_and1, xa_and255, xa_by_and, nI_m1, Nat.add_sub_cancel, Nat.reducePow, Nat.zero_add, Nat.add_zero, Nat.reduceAdd, Nat.reduceMul, Nat.reduceSub, xf_same, xq_ff, xq_fo, xf_1, xf_2, xs_1, xs_2, xs_same, xq_so, xj_1, xj_2, xj_same, xq_jo, xq_sa1, xq_same, xq_other, upd_s, oI_n, oI_s, xf_102_89 F1, xf_102_90 F1, p88]
        refine by_iret ry_246 (by first | rfl | assumption) ?_
        exact fin 1 (by unfold ndn; rw [d1, d2, if_neg (fun z => c2 z.1)])
    · by_cases c9 : c ≤ 9
      · with_reducible refine xm_go_blk b_X12_kindMade_5 k_X12_kindMade_5 ?_
        refine by_istore_n (by rw [ml_246]; decide) ?_
        refine by_iload_n rfl ?_
        refine by_if_ge 12 rfl ?_
        simp (disch := first | exact Nat.ne_of_beq_eq_false rfl | exact rfl | omega) only [nI_add, xa_sub, xa_mul, pk_div, nm_mod, xa_shr, xa_and7, xa_and1, xa_and255, xa_by_and, nI_m1, Nat.add_sub_cancel, Nat.reducePow, Nat.zero_add, Nat.add_zero, Nat.reduceAdd, Nat.reduceMul, Nat.reduceSub, xf_same, xq_ff, xq_fo, xf_1, xf_2, xs_1, xs_2, xs_same, xq_so, xj_1, xj_2, xj_same, xq_jo, xq_sa1, xq_same, xq_other, upd_s, oI_n, oI_s, xv_0, xv_1, xv_2, xv_3, xm_p1, xm_p2, xq_fp, xq_fn, List.filter_nil, Nat.reduceBEq, Bool.not_true, Bool.not_false, Bool.and_true, Bool.and_false, Bool.false_and, Bool.true_and, if_true, if_false, Bool.false_eq_true, reduceIte, xc_i, xc_j, xc_r, xc_n, List.nil_append, List.cons_append, Option.toList_some, Option.toList_none, nI_ltJ, nI_leJ, nI_eqJ, nI_ltz, nI_gez, nI_gtz, nI_lez, nI_eqz, m1_ltz, m1_gez, true_imp_iff, false_imp_iff, true_and, and_true, ne_eq, not_false_eq_true, not_true_eq_false, Nat.reduceEqDiff, Nat.reduceLT, Nat.reduceLeDiff]
        with_reducible refine xm_go_blk b_X12_kindMade_12 k_X12_kindMade_12 ?_
        refine by_iload_n rfl ?_
        refine by_bipush cb_6 ?_
        refine by_ic_gt 59 rfl ?_
        simp (disch := first | exact Nat.ne_of_beq_eq_false rfl | exact rfl | omega) only [nI_add, xa_sub, xa_mul, pk_div, nm_mod, xa_shr, xa_and7, xa_and1, xa_and255, xa_by_and, nI_m1, Nat.add_sub_cancel, Nat.reducePow, Nat.zero_add, Nat.add_zero, Nat.reduceAdd, Nat.reduceMul, Nat.reduceSub, xf_same, xq_ff, xq_fo, xf_1, xf_2, xs_1, xs_2, xs_same, xq_so, xj_1, xj_2, xj_same, xq_jo, xq_sa1, xq_same, xq_other, upd_s, oI_n, oI_s, xv_0, xv_1, xv_2, xv_3, xm_p1, xm_p2, xq_fp, xq_fn, List.filter_nil, Nat.reduceBEq, Bool.not_true, Bool.not_false, Bool.and_true, Bool.and_false, Bool.false_and, Bool.true_and, if_true, if_false, Bool.false_eq_true, reduceIte, xc_i, xc_j, xc_r, xc_n, List.nil_append, List.cons_append, Option.toList_some, Option.toList_none, nI_ltJ, nI_leJ, nI_eqJ, nI_ltz, nI_gez, nI_gtz, nI_lez, nI_eqz, m1_ltz, m1_gez, true_imp_iff, false_imp_iff, true_and, and_true, ne_eq, not_false_eq_true, not_true_eq_false, Nat.reduceEqDiff, Nat.reduceLT, Nat.reduceLeDiff]
        refine ⟨fun c12 => ?_, fun c => absurd (by omega) c⟩
        with_reducible refine xm_go_blk b_X12_kindMade_59 k_X12_kindMade_59 ?_
        refine by_iload_n rfl ?_
        refine by_bipush cb_10 ?_
        refine by_ic_ge 67 rfl ?_
        simp (disch := first | exact Nat.ne_of_beq_eq_false rfl | exact rfl | omega) only [nI_add, xa_sub, xa_mul, pk_div, nm_mod, xa_shr, xa_and7, xa_and1, xa_and255, xa_by_and, nI_m1, Nat.add_sub_cancel, Nat.reducePow, Nat.zero_add, Nat.add_zero, Nat.reduceAdd, Nat.reduceMul, Nat.reduceSub, xf_same, xq_ff, xq_fo, xf_1, xf_2, xs_1, xs_2, xs_same, xq_so, xj_1, xj_2, xj_same, xq_jo, xq_sa1, xq_same, xq_other, upd_s, oI_n, oI_s, xv_0, xv_1, xv_2, xv_3, xm_p1, xm_p2, xq_fp, xq_fn, List.filter_nil, Nat.reduceBEq, Bool.not_true, Bool.not_false, Bool.and_true, Bool.and_false, Bool.false_and, Bool.true_and, if_true, if_false, Bool.false_eq_true, reduceIte, xc_i, xc_j, xc_r, xc_n, List.nil_append, List.cons_append, Option.toList_some, Option.toList_none, nI_ltJ, nI_leJ, nI_eqJ, nI_ltz, nI_gez, nI_gtz, nI_lez, nI_eqz, m1_ltz, m1_gez, true_imp_iff, false_imp_iff, true_and, and_true, ne_eq, not_false_eq_true, not_true_eq_false, Nat.reduceEqDiff, Nat.reduceLT, Nat.reduceLeDiff]
        refine ⟨fun c => absurd c (by omega), fun c59 => ?_⟩
        with_reducible refine xm_go_blk b_X12_kindMade_65 k_X12_kindMade_65 ?_
        refine by_iload_n rfl ?_
        refine by_iret ry_246 (by first | rfl | assumption) ?_
        exact h9 hnf c6 c9 h1 fb (mT1_add hT' hsl gf c1 (mG0_new g1 r1 r2 r3 r4 r5 (fun z => by omega))) sa1 p36
      · have a9' : h1.2.2 102 81 = .int (nI 0) := by rw [f1.2.2 _ _ (by simp)]; exact a9
        have m1 : mtp h1 t := mtp_fr a2 f1 (by simp) (by simp)
        with_reducible refine xm_go_blk b_X12_kindMade_5 k_X12_kindMade_5 ?_
        refine by_istore_n (by rw [ml_246]; decide) ?_
        refine by_iload_n rfl ?_
        refine by_if_ge 12 rfl ?_
        simp (disch := first | exact Nat.ne_of_beq_eq_false rfl | exact rfl | omega) only [nI_add, xa_sub, xa_mul, pk_div, nm_mod, xa_shr, xa_and7, xa_and1, xa_and255, xa_by_and, nI_m1, Nat.add_sub_cancel, Nat.reducePow, Nat.zero_add, Nat.add_zero, Nat.reduceAdd, Nat.reduceMul, Nat.reduceSub, xf_same, xq_ff, xq_fo, xf_1, xf_2, xs_1, xs_2, xs_same, xq_so, xj_1, xj_2, xj_same, xq_jo, xq_sa1, xq_same, xq_other, upd_s, oI_n, oI_s, xv_0, xv_1, xv_2, xv_3, xm_p1, xm_p2, xq_fp, xq_fn, List.filter_nil, Nat.reduceBEq, Bool.not_true, Bool.not_false, Bool.and_true, Bool.and_false, Bool.false_and, Bool.true_and, if_true, if_false, Bool.false_eq_true, reduceIte, xc_i, xc_j, xc_r, xc_n, List.nil_append, List.cons_append, Option.toList_some, Option.toList_none, nI_ltJ, nI_leJ, nI_eqJ, nI_ltz, nI_gez, nI_gtz, nI_lez, nI_eqz, m1_ltz, m1_gez, true_imp_iff, false_imp_iff, true_and, and_true, ne_eq, not_false_eq_true, not_true_eq_false, Nat.reduceEqDiff, Nat.reduceLT, Nat.reduceLeDiff]
        with_reducible refine xm_go_blk b_X12_kindMade_12 k_X12_kindMade_12 ?_
        refine by_iload_n rfl ?_
        refine by_bipush cb_6 ?_
        refine by_ic_gt 59 rfl ?_
        simp (disch := first | exact Nat.ne_of_beq_eq_false rfl | exact rfl | omega) only [nI_add, xa_sub, xa_mul, pk_div, nm_mod, xa_shr, xa_and7, xa_and1, xa_and255, xa_by_and, nI_m1, Nat.add_sub_cancel, Nat.reducePow, Nat.zero_add, Nat.add_zero, Nat.reduceAdd, Nat.reduceMul, Nat.reduceSub, xf_same, xq_ff, xq_fo, xf_1, xf_2, xs_1, xs_2, xs_same, xq_so, xj_1, xj_2, xj_same, xq_jo, xq_sa1, xq_same, xq_other, upd_s, oI_n, oI_s, xv_0, xv_1, xv_2, xv_3, xm_p1, xm_p2, xq_fp, xq_fn, List.filter_nil, Nat.reduceBEq, Bool.not_true, Bool.not_false, Bool.and_true, Bool.and_false, Bool.false_and, Bool.true_and, if_true, if_false, Bool.false_eq_true, reduceIte, xc_i, xc_j, xc_r, xc_n, List.nil_append, List.cons_append, Option.toList_some, Option.toList_none, nI_ltJ, nI_leJ, nI_eqJ, nI_ltz, nI_gez, nI_gtz, nI_lez, nI_eqz, m1_ltz, m1_gez, true_imp_iff, false_imp_iff, true_and, and_true, ne_eq, not_false_eq_true, not_true_eq_false, Nat.reduceEqDiff, Nat.reduceLT, Nat.reduceLeDiff]
        refine ⟨fun c12 => ?_, fun c => absurd (by omega) c⟩
        with_reducible refine xm_go_blk b_X12_kindMade_59 k_X12_kindMade_59 ?_
        refine by_iload_n rfl ?_
        refine by_bipush cb_10 ?_
        refine by_ic_ge 67 rfl ?_
        simp (disch := first | exact Nat.ne_of_beq_eq_false rfl | exact rfl | omega) only [nI_add, xa_sub, xa_mul, pk_div, nm_mod, xa_shr, xa_and7, xa_and1, xa_and255, xa_by_and, nI_m1, Nat.add_sub_cancel, Nat.reducePow, Nat.zero_add, Nat.add_zero, Nat.reduceAdd, Nat.reduceMul, Nat.reduceSub, xf_same, xq_ff, xq_fo, xf_1, xf_2, xs_1, xs_2, xs_same, xq_so, xj_1, xj_2, xj_same, xq_jo, xq_sa1, xq_same, xq_other, upd_s, oI_n, oI_s, xv_0, xv_1, xv_2, xv_3, xm_p1, xm_p2, xq_fp, xq_fn, List.filter_nil, Nat.reduceBEq, Bool.not_true, Bool.not_false, Bool.and_true, Bool.and_false, Bool.false_and, Bool.true_and, if_true, if_false, Bool.false_eq_true, reduceIte, xc_i, xc_j, xc_r, xc_n, List.nil_append, List.cons_append, Option.toList_some, Option.toList_none, nI_ltJ, nI_leJ, nI_eqJ, nI_ltz, nI_gez, nI_gtz, nI_lez, nI_eqz, m1_ltz, m1_gez, true_imp_iff, false_imp_iff, true_and, and_true, ne_eq, not_false_eq_true, not_true_eq_false, Nat.reduceEqDiff, Nat.reduceLT, Nat.reduceLeDiff]
        refine ⟨fun c59 => ?_, fun c => absurd (by omega) c⟩
        with_reducible refine xm_go_blk b_X12_kindMade_67 k_X12_kindMade_67 ?_
        refine by_aload_n rfl ?_
        refine by_inv0 cn_246 lk_12_613 (by rw [xe_cnt]; decide) is_267 np_267 cn_267 (by first | exact rfl | assumption) (Nat.le_of_ble_eq_true rfl) ?_
        refine sp_mnextWord (d := d + 1) F1 m1 sa1 a9' b3 (fun h2 k1 f2 s2 q2 => ?_) (fun h2 k1 f2 w2 => ?_)
        · with_reducible refine xm_go_blk b_X12_kindMade_71 k_X12_kindMade_71 ?_
          refine by_aload_n rfl ?_
          refine by_getf cn_246 fl_12_592 (by first | exact rfl | assumption) (by decide) ?_
          simp (disch := first | exact Nat.ne_of_beq_eq_false rfl | exact rfl | omega) only [nI_add, xa_sub, xa_mul, pk_div, nm_mod, xa_shr, xa_and7, xa_and1, xa_and255, xa_by_and, nI_m1, Nat.add_sub_cancel, Nat.reducePow, Nat.zero_add, Nat.add_zero, Nat.reduceAdd, Nat.reduceMul, Nat.reduceSub, xf_same, xq_ff, xq_fo, xf_1, xf_2, xs_1, xs_2, xs_same, xq_so, xj_1, xj_2, xj_same, xq_jo, xq_sa1, xq_same, xq_other, upd_s, oI_n, oI_s, s2]
          refine by_if_le 80 rfl ?_
          simp (disch := first | exact Nat.ne_of_beq_eq_false rfl | exact rfl | omega) only [nI_add, xa_sub, xa_mul, pk_div, nm_mod, xa_shr, xa_and7, xa_and1, xa_and255, xa_by_and, nI_m1, Nat.add_sub_cancel, Nat.reducePow, Nat.zero_add, Nat.add_zero, Nat.reduceAdd, Nat.reduceMul, Nat.reduceSub, xf_same, xq_ff, xq_fo, xf_1, xf_2, xs_1, xs_2, xs_same, xq_so, xj_1, xj_2, xj_same, xq_jo, xq_sa1, xq_same, xq_other, upd_s, oI_n, oI_s, xv_0, xv_1, xv_2, xv_3, xm_p1, xm_p2, xq_fp, xq_fn, List.filter_nil, Nat.reduceBEq, Bool.not_true, Bool.not_false, Bool.and_true, Bool.and_false, Bool.false_and, Bool.true_and, if_true, if_false, Bool.false_eq_true, reduceIte, xc_i, xc_j, xc_r, xc_n, List.nil_append, List.cons_append, Option.toList_some, Option.toList_none, nI_ltJ, nI_leJ, nI_eqJ, nI_ltz, nI_gez, nI_gtz, nI_lez, nI_eqz, m1_ltz, m1_gez, true_imp_iff, false_imp_iff, true_and, and_true, ne_eq, not_false_eq_true, not_true_eq_false, Nat.reduceEqDiff, Nat.reduceLT, Nat.reduceLeDiff, s2]
          with_reducible refine xm_go_blk b_X12_kindMade_78 k_X12_kindMade_78 ?_
          refine by_iconst ci_m1 ?_
          refine by_iret ry_246 (by first | rfl | assumption) ?_
          exact hn hnf c9 (by unfold sOp; rw [if_neg (by rw [k1]; decide)]) h2 (Fr_tr fb f2 (by simp) (by simp)) s2 q2
        · have F2 : XF h2 := Fr_XF F1 f2 (by decide +kernel)
          have m2 : mtp h2 t := mtp_fr m1 f2 (by simp) (by simp)
          have s2 : h2.2.2 102 81 = .int (nI 0) := by rw [f2.2.2 _ _ (by simp)]; exact a9'
          have q2 : h2.2.2 102 36 = h.2.2 102 36 := by rw [f2.2.2 _ _ (by simp)]; exact p36
          have c2 : h2.2.2 102 5 = .int (nI (sCt G + 1)) := by rw [f2.2.2 _ _ (by simp)]; exact c1
          have fb2 : Fr smbR smbT h h2 := Fr_tr fb f2 (by simp) (by simp)
          have gf2 : Fr [105, 106, 107, 108, 109, 110] ((102, 5) :: smwT) h h2 := Fr_tr gf f2 (by simp) (by simp)
          have e1 : h2.1 = h1.1 := funext (fun r => f2.1 r (by simp))
          have g2 : mG0 h2 G := mG0_fr g1 f2 (by simp) (by simp)
          have w2' := w2
          obtain ⟨w21, w22, w23⟩ := w2
          have bad : ∀ (h3 : xm_H) (lv : xm_L), sOp t c (tkE t p) = none → Fr smbR smbT h h3 → h3.2.2 102 81 = .int (nI 0) → h3.2.2 102 84 = .int (nI (tkF t (tkE t p))) → xm_go (XE sc) (xm_T (XE sc) (d + 4)) 246 post 134 [(3, .int (nI 0)), (0, .ref 102)] [] h3 := fun h3 _ eo f3 s3 w3 => by
            with_reducible refine xm_go_blk b_X12_kindMade_134 k_X12_kindMade_134 ?_
            refine by_iload_n rfl ?_
            refine by_if_eq 142 rfl ?_
            simp (disch := first | exact Nat.ne_of_beq_eq_false rfl | exact rfl | omega) only [nI_add, xa_sub, xa_mul, pk_div, nm_mod, xa_shr, xa_and7, xa_and1, xa_and255, xa_by_and, nI_m1, Nat.add_sub_cancel, Nat.reducePow, Nat.zero_add, Nat.add_zero, Nat.reduceAdd, Nat.reduceMul, Nat.reduceSub, xf_same, xq_ff, xq_fo, xf_1, xf_2, xs_1, xs_2, xs_same, xq_so, xj_1, xj_2, xj_same, xq_jo, xq_sa1, xq_same, xq_other, upd_s, oI_n, oI_s, xv_0, xv_1, xv_2, xv_3, xm_p1, xm_p2, xq_fp, xq_fn, List.filter_nil, Nat.reduceBEq, Bool.not_true, Bool.not_false, Bool.and_true, Bool.and_false, Bool.false_and, Bool.true_and, if_true, if_false, Bool.false_eq_true, reduceIte, xc_i, xc_j, xc_r, xc_n, List.nil_append, List.cons_append, Option.toList_some, Option.toList_none, nI_ltJ, nI_leJ, nI_eqJ, nI_ltz, nI_gez, nI_gtz, nI_lez, nI_eqz, m1_ltz, m1_gez, true_imp_iff, false_imp_iff, true_and, and_true, ne_eq, not_false_eq_true, not_true_eq_false, Nat.reduceEqDiff, Nat.reduceLT, Nat.reduceLeDiff, w3]
            with_reducible refine xm_go_blk b_X12_kindMade_142 k_X12_kindMade_142 ?_
            refine by_aload_n rfl ?_
            refine by_iconst ci_1 ?_
            refine by_aload_n rfl ?_
            refine by_getf cn_246 fl_12_598 (by first | exact rfl | assumption) (by decide) ?_
            simp (disch := first | exact Nat.ne_of_beq_eq_false rfl | exact rfl | omega) only [nI_add, xa_sub, xa_mul, pk_div, nm_mod, xa_shr, xa_and7, xa_and1, xa_and255, xa_by_and, nI_m1, Nat.add_sub_cancel, Nat.reducePow, Nat.zero_add, Nat.add_zero, Nat.reduceAdd, Nat.reduceMul, Nat.reduceSub, xf_same, xq_ff, xq_fo, xf_1, xf_2, xs_1, xs_2, xs_same, xq_so, xj_1, xj_2, xj_same, xq_jo, xq_sa1, xq_same, xq_other, upd_s, oI_n, oI_s, xv_0, xv_1, xv_2, xv_3, xm_p1, xm_p2, xq_fp, xq_fn, List.filter_nil, Nat.reduceBEq, Bool.not_true, Bool.not_false, Bool.and_true, Bool.and_false, Bool.false_and, Bool.true_and, if_true, if_false, Bool.false_eq_true, reduceIte, xc_i, xc_j, xc_r, xc_n, List.nil_append, List.cons_append, Option.toList_some, Option.toList_none, w3]
            refine by_inv2 cn_246 lk_12_604 (by rw [xe_cnt]; decide) is_328 np_328 cn_328 (by first | exact rfl | assumption) (Nat.le_of_ble_eq_true rfl) ?_
            refine sp_mwrong s3 ?_
            with_reducible refine xm_go_blk b_X12_kindMade_151 k_X12_kindMade_151 ?_
            refine by_iret ry_246 (by first | rfl | assumption) ?_
            exact hn hnf c9 eo _ (Fr_sf (Fr_sf f3 (by simp)) (by simp)) (by simp [xm_sf, updV]) (by simp [xm_sf, updV])
          rcases (by omega : c = 12 ∨ c = 10 ∨ c = 11) with rfl | rfl | rfl
          · with_reducible refine xm_go_blk b_X12_kindMade_71 k_X12_kindMade_71 ?_
            refine by_aload_n rfl ?_
            refine by_getf cn_246 fl_12_592 (by first | exact rfl | assumption) (by decide) ?_
            simp (disch := first | exact Nat.ne_of_beq_eq_false rfl | exact rfl | omega) only [nI_add, xa_sub, xa_mul, pk_div, nm_mod, xa_shr, xa_and7, xa_and1, xa_and255, xa_by_and, nI_m1, Nat.add_sub_cancel, Nat.reducePow, Nat.zero_add, Nat.add_zero, Nat.reduceAdd, Nat.reduceMul, Nat.reduceSub, xf_same, xq_ff, xq_fo, xf_1, xf_2, xs_1, xs_2, xs_same, xq_so, xj_1, xj_2, xj_same, xq_jo, xq_sa1, xq_same, xq_other, upd_s, oI_n, oI_s, s2, xf_102_9 F2]
            refine by_if_le 80 rfl ?_
            simp (disch := first | exact Nat.ne_of_beq_eq_false rfl | exact rfl | omega) only [nI_add, xa_sub, xa_mul, pk_div, nm_mod, xa_shr, xa_and7, xa_and1, xa_and255, xa_by_and, nI_m1, Nat.add_sub_cancel, Nat.reducePow, Nat.zero_add, Nat.add_zero, Nat.reduceAdd, Nat.reduceMul, Nat.reduceSub, xf_same, xq_ff, xq_fo, xf_1, xf_2, xs_1, xs_2, xs_same, xq_so, xj_1, xj_2, xj_same, xq_jo, xq_sa1, xq_same, xq_other, upd_s, oI_n, oI_s, xv_0, xv_1, xv_2, xv_3, xm_p1, xm_p2, xq_fp, xq_fn, List.filter_nil, Nat.reduceBEq, Bool.not_true, Bool.not_false, Bool.and_true, Bool.and_false, Bool.false_and, Bool.true_and, if_true, if_false, Bool.false_eq_true, reduceIte, xc_i, xc_j, xc_r, xc_n, List.nil_append, List.cons_append, Option.toList_some, Option.toList_none, nI_ltJ, nI_leJ, nI_eqJ, nI_ltz, nI_gez, nI_gtz, nI_lez, nI_eqz, m1_ltz, m1_gez, true_imp_iff, false_imp_iff, true_and, and_true, ne_eq, not_false_eq_true, not_true_eq_false, Nat.reduceEqDiff, Nat.reduceLT, Nat.reduceLeDiff, s2, xf_102_9 F2]
            with_reducible refine xm_go_blk b_X12_kindMade_80 k_X12_kindMade_80 ?_
            refine by_iload_n rfl ?_
            refine by_bipush cb_12 ?_
            refine by_ic_ne 114 rfl ?_
            simp (disch := first | exact Nat.ne_of_beq_eq_false rfl | exact rfl | omega) only [nI_add, xa_sub, xa_mul, pk_div, nm_mod, xa_shr, xa_and7, xa_and1, xa_and255, xa_by_and, nI_m1, Nat.add_sub_cancel, Nat.reducePow, Nat.zero_add, Nat.add_zero, Nat.reduceAdd, Nat.reduceMul, Nat.reduceSub, xf_same, xq_ff, xq_fo, xf_1, xf_2, xs_1, xs_2, xs_same, xq_so, xj_1, xj_2, xj_same, xq_jo, xq_sa1, xq_same, xq_other, upd_s, oI_n, oI_s, xv_0, xv_1, xv_2, xv_3, xm_p1, xm_p2, xq_fp, xq_fn, List.filter_nil, Nat.reduceBEq, Bool.not_true, Bool.not_false, Bool.and_true, Bool.and_false, Bool.false_and, Bool.true_and, if_true, if_false, Bool.false_eq_true, reduceIte, xc_i, xc_j, xc_r, xc_n, List.nil_append, List.cons_append, Option.toList_some, Option.toList_none, nI_ltJ, nI_leJ, nI_eqJ, nI_ltz, nI_gez, nI_gtz, nI_lez, nI_eqz, m1_ltz, m1_gez, true_imp_iff, false_imp_iff, true_and, and_true, ne_eq, not_false_eq_true, not_true_eq_false, Nat.reduceEqDiff, Nat.reduceLT, Nat.reduceLeDiff, s2, xf_102_9 F2]
            with_reducible refine xm_go_blk b_X12_kindMade_86 k_X12_kindMade_86 ?_
            refine by_aload_n rfl ?_
            refine by_getf cn_246 fl_12_25 (by first | exact rfl | assumption) (by decide) ?_
            refine by_iload_n rfl ?_
            refine by_aload_n rfl ?_
            simp (disch := first | exact Nat.ne_of_beq_eq_false rfl | exact rfl | omega) only [nI_add, xa_sub, xa_mul, pk_div, nm_mod, xa_shr, xa_and7, xa_and1, xa_and255, xa_by_and, nI_m1, Nat.add_sub_cancel, Nat.reducePow, Nat.zero_add, Nat.add_zero, Nat.reduceAdd, Nat.reduceMul, Nat.reduceSub, xf_same, xq_ff, xq_fo, xf_1, xf_2, xs_1, xs_2, xs_same, xq_so, xj_1, xj_2, xj_same, xq_jo, xq_sa1, xq_same, xq_other, upd_s, oI_n, oI_s, xv_0, xv_1, xv_2, xv_3, xm_p1, xm_p2, xq_fp, xq_fn, List.filter_nil, Nat.reduceBEq, Bool.not_true, Bool.not_false, Bool.and_true, Bool.and_false, Bool.false_and, Bool.true_and, if_true, if_false, Bool.false_eq_true, reduceIte, xc_i, xc_j, xc_r, xc_n, List.nil_append, List.cons_append, Option.toList_some, Option.toList_none, s2, xf_102_9 F2]
            refine by_inv0 cn_246 lk_12_632 (by rw [xe_cnt]; decide) is_240 np_240 cn_240 (by first | exact rfl | assumption) (Nat.le_of_ble_eq_true rfl) ?_
            refine sp_jetNumber (d := d + 2) F2 m2 w2' b3 (fun k5 ok => ?_) (fun nok => ?_)
            · have eo : sOp t 12 (tkE t p) = some (jnv t (tkF t (tkE t p)) (tkE t (tkE t p) - tkF t (tkE t p)), 0, fun _ => 0) := by unfold sOp; rw [if_pos k5, if_neg (by decide), if_neg (by decide), if_pos ok]
              have hv := ok.2.2
              have f3 : Fr [105, 106, 107, 108, 109, 110] ((102, 5) :: smwT) h2 (xm_si h2 108 (sCt G) (nI (jnv t (tkF t (tkE t p)) (tkE t (tkE t p) - tkF t (tkE t p))))) := Fr_si Fr_rf (by simp)
              with_reducible refine xm_go_blk b_X12_kindMade_95 k_X12_kindMade_95 ?_
              refine by_iast (by first | exact rfl | assumption | exact ps_1 hpp | exact ps_2 hpp | exact ps_3 hpp | exact ps_4 hpp | exact ps_5 hpp | exact ps_6 hpp | exact ps_7 hpp | exact ps_8 hpp | exact ps_9 hpp | exact ps_10 hpp | exact ps_11 hpp | exact ps_15 hpp | exact ps_16 hpp | exact ps_17 hpp | exact ps_18 hpp | exact ps_19 hpp | exact ps_21 hpp | exact ps_22 hpp | exact ps_23 hpp | exact ps_24 hpp) ⟨by omega, by omega⟩ ?_
              refine by_aload_n rfl ?_
              refine by_getf cn_246 fl_12_25 (by first | exact rfl | assumption) (by decide) ?_
              refine by_iload_n rfl ?_
              simp (disch := first | exact Nat.ne_of_beq_eq_false rfl | exact rfl | omega) only [nI_add, xa_sub, xa_mul, pk_div, nm_mod, xa_shr, xa_and7, xa_and1, xa_and255, xa_by_and, nI_m1, Nat.add_sub_cancel, Nat.reducePow, Nat.zero_add, Nat.add_zero, Nat.reduceAdd, Nat.reduceMul, Nat.reduceSub, xf_same, xq_ff, xq_fo, xf_1, xf_2, xs_1, xs_2, xs_same, xq_so, xj_1, xj_2, xj_same, xq_jo, xq_sa1, xq_same, xq_other, upd_s, oI_n, oI_s, xf_102_9 F2]
              first | refine by_iald (by first | exact rfl | assumption | exact ps_1 hpp | exact ps_2 hpp | exact ps_3 hpp | exact ps_4 hpp | exact ps_5 hpp | exact ps_6 hpp | exact ps_7 hpp | exact ps_8 hpp | exact ps_9 hpp | exact ps_10 hpp | exact ps_11 hpp | exact ps_15 hpp | exact ps_16 hpp | exact ps_17 hpp | exact ps_18 hpp | exact ps_19 hpp | exact ps_21 hpp | exact ps_22 hpp | exact ps_23 hpp | exact ps_24 hpp) ⟨by omega, by omega⟩ ?_ | refine by_tald rfl rfl ⟨by omega, by omega⟩ ?_
              refine by_if_lt 109 rfl ?_
              simp (disch := first | exact Nat.ne_of_beq_eq_false rfl | exact rfl | omega) only [nI_add, xa_sub, xa_mul, pk_div, nm_mod, xa_shr, xa_and7, xa_and1, xa_and255, xa_by_and, nI_m1, Nat.add_sub_cancel, Nat.reducePow, Nat.zero_add, Nat.add_zero, Nat.reduceAdd, Nat.reduceMul, Nat.reduceSub, xf_same, xq_ff, xq_fo, xf_1, xf_2, xs_1, xs_2, xs_same, xq_so, xj_1, xj_2, xj_same, xq_jo, xq_sa1, xq_same, xq_other, upd_s, oI_n, oI_s, xv_0, xv_1, xv_2, xv_3, xm_p1, xm_p2, xq_fp, xq_fn, List.filter_nil, Nat.reduceBEq, Bool.not_true, Bool.not_false, Bool.and_true, Bool.and_false, Bool.false_and, Bool.true_and, if_true, if_false, Bool.false_eq_true, reduceIte, xc_i, xc_j, xc_r, xc_n, List.nil_append, List.cons_append, Option.toList_some, Option.toList_none, nI_ltJ, nI_leJ, nI_eqJ, nI_ltz, nI_gez, nI_gtz, nI_lez, nI_eqz, m1_ltz, m1_gez, true_imp_iff, false_imp_iff, true_and, and_true, ne_eq, not_false_eq_true, not_true_eq_false, Nat.reduceEqDiff, Nat.reduceLT, Nat.reduceLeDiff, xf_102_9 F2]
              with_reducible refine xm_go_blk b_X12_kindMade_105 k_X12_kindMade_105 ?_
              refine by_iconst ci_1 ?_
              refine by_goto 110 rfl ?_
              with_reducible refine xm_go_blk b_X12_kindMade_110 k_X12_kindMade_110 ?_
              refine by_istore_n (by rw [ml_246]; decide) ?_
              refine by_goto 134 rfl ?_
              try simp (disch := first | exact Nat.ne_of_beq_eq_false rfl | exact rfl | omega) only [nI_add, xa_sub, xa_mul, pk_div, nm_mod, xa_shr, xa_and7, xa_and1, xa_and255, xa_by_and, nI_m1, Nat.add_sub_cancel, Nat.reducePow, Nat.zero_add, Nat.add_zero, Nat.reduceAdd, Nat.reduceMul, Nat.reduceSub, xf_same, xq_ff, xq_fo, xf_1, xf_2, xs_1, xs_2, xs_same, xq_so, xj_1, xj_2, xj_same, xq_jo, xq_sa1, xq_same, xq_other, upd_s, oI_n, oI_s, xv_0, xv_1, xv_2, xv_3, xm_p1, xm_p2, xq_fp, xq_fn, List.filter_nil, Nat.reduceBEq, Bool.not_true, Bool.not_false, Bool.and_true, Bool.and_false, Bool.false_and, Bool.true_and, if_true, if_false, Bool.false_eq_true, reduceIte, xc_i, xc_j, xc_r, xc_n, List.nil_append, List.cons_append, Option.toList_some, Option.toList_none, xf_102_9 F2]
              with_reducible refine xm_go_blk b_X12_kindMade_134 k_X12_kindMade_134 ?_
              refine by_iload_n rfl ?_
              refine by_if_eq 142 rfl ?_
              simp (disch := first | exact Nat.ne_of_beq_eq_false rfl | exact rfl | omega) only [nI_add, xa_sub, xa_mul, pk_div, nm_mod, xa_shr, xa_and7, xa_and1, xa_and255, xa_by_and, nI_m1, Nat.add_sub_cancel, Nat.reducePow, Nat.zero_add, Nat.add_zero, Nat.reduceAdd, Nat.reduceMul, Nat.reduceSub, xf_same, xq_ff, xq_fo, xf_1, xf_2, xs_1, xs_2, xs_same, xq_so, xj_1, xj_2, xj_same, xq_jo, xq_sa1, xq_same, xq_other, upd_s, oI_n, oI_s, xv_0, xv_1, xv_2, xv_3, xm_p1, xm_p2, xq_fp, xq_fn, List.filter_nil, Nat.reduceBEq, Bool.not_true, Bool.not_false, Bool.and_true, Bool.and_false, Bool.false_and, Bool.true_and, if_true, if_false, Bool.false_eq_true, reduceIte, xc_i, xc_j, xc_r, xc_n, List.nil_append, List.cons_append, Option.toList_some, Option.toList_none, nI_ltJ, nI_leJ, nI_eqJ, nI_ltz, nI_gez, nI_gtz, nI_lez, nI_eqz, m1_ltz, m1_gez, true_imp_iff, false_imp_iff, true_and, and_true, ne_eq, not_false_eq_true, not_true_eq_false, Nat.reduceEqDiff, Nat.reduceLT, Nat.reduceLeDiff, xf_102_9 F2]
              with_reducible refine xm_go_blk b_X12_kindMade_138 k_X12_kindMade_138 ?_
              refine by_iload_n rfl ?_
              refine by_goto 151 rfl ?_
              with_reducible refine xm_go_blk b_X12_kindMade_151 k_X12_kindMade_151 ?_
              refine by_iret ry_246 (by first | rfl | assumption) ?_
              refine hy _ hnf c9 eo _ (Fr_si fb2 (by simp)) (mT1_add hT' hsl (Fr_tr gf2 f3 (by simp) (by simp)) (by simpa [xm_si] using c2) (mG0_new (mG0_k g2 (fun r m hm hr => ?_) (fun j _ => by rw [xq_so (by decide)])) ?_ ?_ ?_ ?_ ?_ (fun z => by omega))) (by simpa [xm_si] using w21) (by simpa [xm_si] using q2)
              · by_cases z : r = 108
                · subst z
                  rw [xs_same]
                  unfold upd
                  rw [if_neg (by omega)]
                · rw [xq_so z]
              · rw [xq_so (by decide), e1]; exact r1
              · rw [xq_so (by decide), e1]; exact r2
              · rw [xq_so (by decide), e1]; exact r3
              · rw [xs_same]; unfold upd; rw [if_pos rfl]
              · rw [xq_so (by decide), e1]; exact r5
            · have eo : sOp t 12 (tkE t p) = none := by
                unfold sOp
                by_cases k5 : tkK t (tkE t p) = 5
                · rw [if_pos k5, if_neg (by decide), if_neg (by decide), if_neg (fun z => nok ⟨k5, z⟩)]
                · rw [if_neg k5]
              with_reducible refine xm_go_blk b_X12_kindMade_95 k_X12_kindMade_95 ?_
              refine by_iast (by first | exact rfl | assumption | exact ps_1 hpp | exact ps_2 hpp | exact ps_3 hpp | exact ps_4 hpp | exact ps_5 hpp | exact ps_6 hpp | exact ps_7 hpp | exact ps_8 hpp | exact ps_9 hpp | exact ps_10 hpp | exact ps_11 hpp | exact ps_15 hpp | exact ps_16 hpp | exact ps_17 hpp | exact ps_18 hpp | exact ps_19 hpp | exact ps_21 hpp | exact ps_22 hpp | exact ps_23 hpp | exact ps_24 hpp) ⟨by omega, by omega⟩ ?_
              refine by_aload_n rfl ?_
              refine by_getf cn_246 fl_12_25 (by first | exact rfl | assumption) (by decide) ?_
              refine by_iload_n rfl ?_
              simp (disch := first | exact Nat.ne_of_beq_eq_false rfl | exact rfl | omega) only [nI_add, xa_sub, xa_mul, pk_div, nm_mod, xa_shr, xa_and7, xa_and1, xa_and255, xa_by_and, nI_m1, Nat.add_sub_cancel, Nat.reducePow, Nat.zero_add, Nat.add_zero, Nat.reduceAdd, Nat.reduceMul, Nat.reduceSub, xf_same, xq_ff, xq_fo, xf_1, xf_2, xs_1, xs_2, xs_same, xq_so, xj_1, xj_2, xj_same, xq_jo, xq_sa1, xq_same, xq_other, upd_s, oI_n, oI_s, xf_102_9 F2]
              first | refine by_iald (by first | exact rfl | assumption | exact ps_1 hpp | exact ps_2 hpp | exact ps_3 hpp | exact ps_4 hpp | exact ps_5 hpp | exact ps_6 hpp | exact ps_7 hpp | exact ps_8 hpp | exact ps_9 hpp | exact ps_10 hpp | exact ps_11 hpp | exact ps_15 hpp | exact ps_16 hpp | exact ps_17 hpp | exact ps_18 hpp | exact ps_19 hpp | exact ps_21 hpp | exact ps_22 hpp | exact ps_23 hpp | exact ps_24 hpp) ⟨by omega, by omega⟩ ?_ | refine by_tald rfl rfl ⟨by omega, by omega⟩ ?_
              refine by_if_lt 109 rfl ?_
              simp (disch := first | exact Nat.ne_of_beq_eq_false rfl | exact rfl | omega) only [nI_add, xa_sub, xa_mul, pk_div, nm_mod, xa_shr, xa_and7, xa_and1, xa_and255, xa_by_and, nI_m1, Nat.add_sub_cancel, Nat.reducePow, Nat.zero_add, Nat.add_zero, Nat.reduceAdd, Nat.reduceMul, Nat.reduceSub, xf_same, xq_ff, xq_fo, xf_1, xf_2, xs_1, xs_2, xs_same, xq_so, xj_1, xj_2, xj_same, xq_jo, xq_sa1, xq_same, xq_other, upd_s, oI_n, oI_s, xv_0, xv_1, xv_2, xv_3, xm_p1, xm_p2, xq_fp, xq_fn, List.filter_nil, Nat.reduceBEq, Bool.not_true, Bool.not_false, Bool.and_true, Bool.and_false, Bool.false_and, Bool.true_and, if_true, if_false, Bool.false_eq_true, reduceIte, xc_i, xc_j, xc_r, xc_n, List.nil_append, List.cons_append, Option.toList_some, Option.toList_none, nI_ltJ, nI_leJ, nI_eqJ, nI_ltz, nI_gez, nI_gtz, nI_lez, nI_eqz, m1_ltz, m1_gez, true_imp_iff, false_imp_iff, true_and, and_true, ne_eq, not_false_eq_true, not_true_eq_false, Nat.reduceEqDiff, Nat.reduceLT, Nat.reduceLeDiff, xf_102_9 F2]
              with_reducible refine xm_go_blk b_X12_kindMade_109 k_X12_kindMade_109 ?_
              refine by_iconst ci_0 ?_
              refine by_nil ?_
              with_reducible refine xm_go_blk b_X12_kindMade_110 k_X12_kindMade_110 ?_
              refine by_istore_n (by rw [ml_246]; decide) ?_
              refine by_goto 134 rfl ?_
              try simp (disch := first | exact Nat.ne_of_beq_eq_false rfl | exact rfl | omega) only [nI_add, xa_sub, xa_mul, pk_div, nm_mod, xa_shr, xa_and7, xa_and1, xa_and255, xa_by_and, nI_m1, Nat.add_sub_cancel, Nat.reducePow, Nat.zero_add, Nat.add_zero, Nat.reduceAdd, Nat.reduceMul, Nat.reduceSub, xf_same, xq_ff, xq_fo, xf_1, xf_2, xs_1, xs_2, xs_same, xq_so, xj_1, xj_2, xj_same, xq_jo, xq_sa1, xq_same, xq_other, upd_s, oI_n, oI_s, xv_0, xv_1, xv_2, xv_3, xm_p1, xm_p2, xq_fp, xq_fn, List.filter_nil, Nat.reduceBEq, Bool.not_true, Bool.not_false, Bool.and_true, Bool.and_false, Bool.false_and, Bool.true_and, if_true, if_false, Bool.false_eq_true, reduceIte, xc_i, xc_j, xc_r, xc_n, List.nil_append, List.cons_append, Option.toList_some, Option.toList_none, xf_102_9 F2]
              exact xm_go_wk (by simp [Value.category]) (bad _ [] eo (Fr_si fb2 (by simp)) (by simpa [xm_si] using s2) (by simpa [xm_si] using w22))
          · with_reducible refine xm_go_blk b_X12_kindMade_71 k_X12_kindMade_71 ?_
            refine by_aload_n rfl ?_
            refine by_getf cn_246 fl_12_592 (by first | exact rfl | assumption) (by decide) ?_
            simp (disch := first | exact Nat.ne_of_beq_eq_false rfl | exact rfl | omega) only [nI_add, xa_sub, xa_mul, pk_div, nm_mod, xa_shr, xa_and7, xa_and1, xa_and255, xa_by_and, nI_m1, Nat.add_sub_cancel, Nat.reducePow, Nat.zero_add, Nat.add_zero, Nat.reduceAdd, Nat.reduceMul, Nat.reduceSub, xf_same, xq_ff, xq_fo, xf_1, xf_2, xs_1, xs_2, xs_same, xq_so, xj_1, xj_2, xj_same, xq_jo, xq_sa1, xq_same, xq_other, upd_s, oI_n, oI_s, s2]
            refine by_if_le 80 rfl ?_
            simp (disch := first | exact Nat.ne_of_beq_eq_false rfl | exact rfl | omega) only [nI_add, xa_sub, xa_mul, pk_div, nm_mod, xa_shr, xa_and7, xa_and1, xa_and255, xa_by_and, nI_m1, Nat.add_sub_cancel, Nat.reducePow, Nat.zero_add, Nat.add_zero, Nat.reduceAdd, Nat.reduceMul, Nat.reduceSub, xf_same, xq_ff, xq_fo, xf_1, xf_2, xs_1, xs_2, xs_same, xq_so, xj_1, xj_2, xj_same, xq_jo, xq_sa1, xq_same, xq_other, upd_s, oI_n, oI_s, xv_0, xv_1, xv_2, xv_3, xm_p1, xm_p2, xq_fp, xq_fn, List.filter_nil, Nat.reduceBEq, Bool.not_true, Bool.not_false, Bool.and_true, Bool.and_false, Bool.false_and, Bool.true_and, if_true, if_false, Bool.false_eq_true, reduceIte, xc_i, xc_j, xc_r, xc_n, List.nil_append, List.cons_append, Option.toList_some, Option.toList_none, nI_ltJ, nI_leJ, nI_eqJ, nI_ltz, nI_gez, nI_gtz, nI_lez, nI_eqz, m1_ltz, m1_gez, true_imp_iff, false_imp_iff, true_and, and_true, ne_eq, not_false_eq_true, not_true_eq_false, Nat.reduceEqDiff, Nat.reduceLT, Nat.reduceLeDiff, s2]
            with_reducible refine xm_go_blk b_X12_kindMade_80 k_X12_kindMade_80 ?_
            refine by_iload_n rfl ?_
            refine by_bipush cb_12 ?_
            refine by_ic_ne 114 rfl ?_
            simp (disch := first | exact Nat.ne_of_beq_eq_false rfl | exact rfl | omega) only [nI_add, xa_sub, xa_mul, pk_div, nm_mod, xa_shr, xa_and7, xa_and1, xa_and255, xa_by_and, nI_m1, Nat.add_sub_cancel, Nat.reducePow, Nat.zero_add, Nat.add_zero, Nat.reduceAdd, Nat.reduceMul, Nat.reduceSub, xf_same, xq_ff, xq_fo, xf_1, xf_2, xs_1, xs_2, xs_same, xq_so, xj_1, xj_2, xj_same, xq_jo, xq_sa1, xq_same, xq_other, upd_s, oI_n, oI_s, xv_0, xv_1, xv_2, xv_3, xm_p1, xm_p2, xq_fp, xq_fn, List.filter_nil, Nat.reduceBEq, Bool.not_true, Bool.not_false, Bool.and_true, Bool.and_false, Bool.false_and, Bool.true_and, if_true, if_false, Bool.false_eq_true, reduceIte, xc_i, xc_j, xc_r, xc_n, List.nil_append, List.cons_append, Option.toList_some, Option.toList_none, nI_ltJ, nI_leJ, nI_eqJ, nI_ltz, nI_gez, nI_gtz, nI_lez, nI_eqz, m1_ltz, m1_gez, true_imp_iff, false_imp_iff, true_and, and_true, ne_eq, not_false_eq_true, not_true_eq_false, Nat.reduceEqDiff, Nat.reduceLT, Nat.reduceLeDiff, s2]
            with_reducible refine xm_go_blk b_X12_kindMade_114 k_X12_kindMade_114 ?_
            refine by_iload_n rfl ?_
            refine by_bipush cb_10 ?_
            refine by_ic_ne 128 rfl ?_
            simp (disch := first | exact Nat.ne_of_beq_eq_false rfl | exact rfl | omega) only [nI_add, xa_sub, xa_mul, pk_div, nm_mod, xa_shr, xa_and7, xa_and1, xa_and255, xa_by_and, nI_m1, Nat.add_sub_cancel, Nat.reducePow, Nat.zero_add, Nat.add_zero, Nat.reduceAdd, Nat.reduceMul, Nat.reduceSub, xf_same, xq_ff, xq_fo, xf_1, xf_2, xs_1, xs_2, xs_same, xq_so, xj_1, xj_2, xj_same, xq_jo, xq_sa1, xq_same, xq_other, upd_s, oI_n, oI_s, xv_0, xv_1, xv_2, xv_3, xm_p1, xm_p2, xq_fp, xq_fn, List.filter_nil, Nat.reduceBEq, Bool.not_true, Bool.not_false, Bool.and_true, Bool.and_false, Bool.false_and, Bool.true_and, if_true, if_false, Bool.false_eq_true, reduceIte, xc_i, xc_j, xc_r, xc_n, List.nil_append, List.cons_append, Option.toList_some, Option.toList_none, nI_ltJ, nI_leJ, nI_eqJ, nI_ltz, nI_gez, nI_gtz, nI_lez, nI_eqz, m1_ltz, m1_gez, true_imp_iff, false_imp_iff, true_and, and_true, ne_eq, not_false_eq_true, not_true_eq_false, Nat.reduceEqDiff, Nat.reduceLT, Nat.reduceLeDiff, s2]
            with_reducible refine xm_go_blk b_X12_kindMade_120 k_X12_kindMade_120 ?_
            refine by_aload_n rfl ?_
            refine by_iload_n rfl ?_
            refine by_inv1 cn_246 lk_12_635 (by rw [xe_cnt]; decide) is_302 np_302 cn_302 (by first | exact rfl | assumption) (Nat.le_of_ble_eq_true rfl) ?_
            refine sp_takesRow (d := d + 3) F2 m2 w2' b3 (by omega) (fun k5 ok => ?_) (fun nok => ?_)
            · have eo : sOp t 10 (tkE t p) = some (tkF t (tkE t p), rwL t (tkF t (tkE t p)) (tkE t (tkE t p)), fun _ => 0) := by unfold sOp; rw [if_pos k5, if_pos rfl, if_pos ok]
              have f3 : Fr [105, 106, 107, 108, 109, 110] ((102, 5) :: smwT) h2 (xm_si (xm_si h2 108 (sCt G) (nI (tkF t (tkE t p)))) 109 (sCt G) (nI (rwL t (tkF t (tkE t p)) (tkE t (tkE t p))))) := Fr_si (Fr_si Fr_rf (by simp)) (by simp)
              with_reducible refine xm_go_blk b_X12_kindMade_125 k_X12_kindMade_125 ?_
              refine by_goto 133 rfl ?_
              with_reducible refine xm_go_blk b_X12_kindMade_133 k_X12_kindMade_133 ?_
              refine by_istore_n (by rw [ml_246]; decide) ?_
              refine by_nil ?_
              try simp (disch := first | exact Nat.ne_of_beq_eq_false rfl | exact rfl | omega) only [nI_add, xa_sub, xa_mul, pk_div, nm_mod, xa_shr, xa_and7, xa_and1, xa_and255, xa_by_and, nI_m1, Nat.add_sub_cancel, Nat.reducePow, Nat.zero_add, Nat.add_zero, Nat.reduceAdd, Nat.reduceMul, Nat.reduceSub, xf_same, xq_ff, xq_fo, xf_1, xf_2, xs_1, xs_2, xs_same, xq_so, xj_1, xj_2, xj_same, xq_jo, xq_sa1, xq_same, xq_other, upd_s, oI_n, oI_s, xv_0, xv_1, xv_2, xv_3, xm_p1, xm_p2, xq_fp, xq_fn, List.filter_nil, Nat.reduceBEq, Bool.not_true, Bool.not_false, Bool.and_true, Bool.and_false, Bool.false_and, Bool.true_and, if_true, if_false, Bool.false_eq_true, reduceIte, xc_i, xc_j, xc_r, xc_n, List.nil_append, List.cons_append, Option.toList_some, Option.toList_none]
              with_reducible refine xm_go_blk b_X12_kindMade_134 k_X12_kindMade_134 ?_
              refine by_iload_n rfl ?_
              refine by_if_eq 142 rfl ?_
              simp (disch := first | exact Nat.ne_of_beq_eq_false rfl | exact rfl | omega) only [nI_add, xa_sub, xa_mul, pk_div, nm_mod, xa_shr, xa_and7, xa_and1, xa_and255, xa_by_and, nI_m1, Nat.add_sub_cancel, Nat.reducePow, Nat.zero_add, Nat.add_zero, Nat.reduceAdd, Nat.reduceMul, Nat.reduceSub, xf_same, xq_ff, xq_fo, xf_1, xf_2, xs_1, xs_2, xs_same, xq_so, xj_1, xj_2, xj_same, xq_jo, xq_sa1, xq_same, xq_other, upd_s, oI_n, oI_s, xv_0, xv_1, xv_2, xv_3, xm_p1, xm_p2, xq_fp, xq_fn, List.filter_nil, Nat.reduceBEq, Bool.not_true, Bool.not_false, Bool.and_true, Bool.and_false, Bool.false_and, Bool.true_and, if_true, if_false, Bool.false_eq_true, reduceIte, xc_i, xc_j, xc_r, xc_n, List.nil_append, List.cons_append, Option.toList_some, Option.toList_none, nI_ltJ, nI_leJ, nI_eqJ, nI_ltz, nI_gez, nI_gtz, nI_lez, nI_eqz, m1_ltz, m1_gez, true_imp_iff, false_imp_iff, true_and, and_true, ne_eq, not_false_eq_true, not_true_eq_false, Nat.reduceEqDiff, Nat.reduceLT, Nat.reduceLeDiff]
              with_reducible refine xm_go_blk b_X12_kindMade_138 k_X12_kindMade_138 ?_
              refine by_iload_n rfl ?_
              refine by_goto 151 rfl ?_
              with_reducible refine xm_go_blk b_X12_kindMade_151 k_X12_kindMade_151 ?_
              refine by_iret ry_246 (by first | rfl | assumption) ?_
              refine hy _ hnf c9 eo _ (Fr_si (Fr_si fb2 (by simp)) (by simp)) (mT1_add hT' hsl (Fr_tr gf2 f3 (by simp) (by simp)) (by simpa [xm_si] using c2) (mG0_new (mG0_k g2 (fun r m hm hr => ?_) (fun j _ => by rw [xq_so (by decide), xq_so (by decide)])) ?_ ?_ ?_ ?_ ?_ (fun z => by omega))) (by simpa [xm_si] using w21) (by simpa [xm_si] using q2)
              · have hm2 : m ≠ sCt G := by omega
                simp only [List.mem_cons, List.not_mem_nil, or_false] at hr
                rcases hr with rfl | rfl | rfl | rfl | rfl <;> simp [xm_si, upd, hm2]
              · rw [xq_so (by decide), xq_so (by decide), e1]; exact r1
              · rw [xq_so (by decide), xq_so (by decide), e1]; exact r2
              · rw [xq_so (by decide), xq_so (by decide), e1]; exact r3
              · rw [xq_so (by decide), xs_same]; unfold upd; rw [if_pos rfl]
              · rw [xs_same]; unfold upd; rw [if_pos rfl]
            · have eo : sOp t 10 (tkE t p) = none := by
                unfold sOp
                by_cases k5 : tkK t (tkE t p) = 5
                · rw [if_pos k5, if_pos rfl, if_neg (fun z => nok ⟨k5, z⟩)]
                · rw [if_neg k5]
              with_reducible refine xm_go_blk b_X12_kindMade_125 k_X12_kindMade_125 ?_
              refine by_goto 133 rfl ?_
              with_reducible refine xm_go_blk b_X12_kindMade_133 k_X12_kindMade_133 ?_
              refine by_istore_n (by rw [ml_246]; decide) ?_
              refine by_nil ?_
              try simp (disch := first | exact Nat.ne_of_beq_eq_false rfl | exact rfl | omega) only [nI_add, xa_sub, xa_mul, pk_div, nm_mod, xa_shr, xa_and7, xa_and1, xa_and255, xa_by_and, nI_m1, Nat.add_sub_cancel, Nat.reducePow, Nat.zero_add, Nat.add_zero, Nat.reduceAdd, Nat.reduceMul, Nat.reduceSub, xf_same, xq_ff, xq_fo, xf_1, xf_2, xs_1, xs_2, xs_same, xq_so, xj_1, xj_2, xj_same, xq_jo, xq_sa1, xq_same, xq_other, upd_s, oI_n, oI_s, xv_0, xv_1, xv_2, xv_3, xm_p1, xm_p2, xq_fp, xq_fn, List.filter_nil, Nat.reduceBEq, Bool.not_true, Bool.not_false, Bool.and_true, Bool.and_false, Bool.false_and, Bool.true_and, if_true, if_false, Bool.false_eq_true, reduceIte, xc_i, xc_j, xc_r, xc_n, List.nil_append, List.cons_append, Option.toList_some, Option.toList_none]
              exact xm_go_wk (by simp [Value.category]) (bad _ [] eo fb2 s2 w22)
          · with_reducible refine xm_go_blk b_X12_kindMade_71 k_X12_kindMade_71 ?_
            refine by_aload_n rfl ?_
            refine by_getf cn_246 fl_12_592 (by first | exact rfl | assumption) (by decide) ?_
            simp (disch := first | exact Nat.ne_of_beq_eq_false rfl | exact rfl | omega) only [nI_add, xa_sub, xa_mul, pk_div, nm_mod, xa_shr, xa_and7, xa_and1, xa_and255, xa_by_and, nI_m1, Nat.add_sub_cancel, Nat.reducePow, Nat.zero_add, Nat.add_zero, Nat.reduceAdd, Nat.reduceMul, Nat.reduceSub, xf_same, xq_ff, xq_fo, xf_1, xf_2, xs_1, xs_2, xs_same, xq_so, xj_1, xj_2, xj_same, xq_jo, xq_sa1, xq_same, xq_other, upd_s, oI_n, oI_s, s2]
            refine by_if_le 80 rfl ?_
            simp (disch := first | exact Nat.ne_of_beq_eq_false rfl | exact rfl | omega) only [nI_add, xa_sub, xa_mul, pk_div, nm_mod, xa_shr, xa_and7, xa_and1, xa_and255, xa_by_and, nI_m1, Nat.add_sub_cancel, Nat.reducePow, Nat.zero_add, Nat.add_zero, Nat.reduceAdd, Nat.reduceMul, Nat.reduceSub, xf_same, xq_ff, xq_fo, xf_1, xf_2, xs_1, xs_2, xs_same, xq_so, xj_1, xj_2, xj_same, xq_jo, xq_sa1, xq_same, xq_other, upd_s, oI_n, oI_s, xv_0, xv_1, xv_2, xv_3, xm_p1, xm_p2, xq_fp, xq_fn, List.filter_nil, Nat.reduceBEq, Bool.not_true, Bool.not_false, Bool.and_true, Bool.and_false, Bool.false_and, Bool.true_and, if_true, if_false, Bool.false_eq_true, reduceIte, xc_i, xc_j, xc_r, xc_n, List.nil_append, List.cons_append, Option.toList_some, Option.toList_none, nI_ltJ, nI_leJ, nI_eqJ, nI_ltz, nI_gez, nI_gtz, nI_lez, nI_eqz, m1_ltz, m1_gez, true_imp_iff, false_imp_iff, true_and, and_true, ne_eq, not_false_eq_true, not_true_eq_false, Nat.reduceEqDiff, Nat.reduceLT, Nat.reduceLeDiff, s2]
            with_reducible refine xm_go_blk b_X12_kindMade_80 k_X12_kindMade_80 ?_
            refine by_iload_n rfl ?_
            refine by_bipush cb_12 ?_
            refine by_ic_ne 114 rfl ?_
            simp (disch := first | exact Nat.ne_of_beq_eq_false rfl | exact rfl | omega) only [nI_add, xa_sub, xa_mul, pk_div, nm_mod, xa_shr, xa_and7, xa_and1, xa_and255, xa_by_and, nI_m1, Nat.add_sub_cancel, Nat.reducePow, Nat.zero_add, Nat.add_zero, Nat.reduceAdd, Nat.reduceMul, Nat.reduceSub, xf_same, xq_ff, xq_fo, xf_1, xf_2, xs_1, xs_2, xs_same, xq_so, xj_1, xj_2, xj_same, xq_jo, xq_sa1, xq_same, xq_other, upd_s, oI_n, oI_s, xv_0, xv_1, xv_2, xv_3, xm_p1, xm_p2, xq_fp, xq_fn, List.filter_nil, Nat.reduceBEq, Bool.not_true, Bool.not_false, Bool.and_true, Bool.and_false, Bool.false_and, Bool.true_and, if_true, if_false, Bool.false_eq_true, reduceIte, xc_i, xc_j, xc_r, xc_n, List.nil_append, List.cons_append, Option.toList_some, Option.toList_none, nI_ltJ, nI_leJ, nI_eqJ, nI_ltz, nI_gez, nI_gtz, nI_lez, nI_eqz, m1_ltz, m1_gez, true_imp_iff, false_imp_iff, true_and, and_true, ne_eq, not_false_eq_true, not_true_eq_false, Nat.reduceEqDiff, Nat.reduceLT, Nat.reduceLeDiff, s2]
            with_reducible refine xm_go_blk b_X12_kindMade_114 k_X12_kindMade_114 ?_
            refine by_iload_n rfl ?_
            refine by_bipush cb_10 ?_
            refine by_ic_ne 128 rfl ?_
            simp (disch := first | exact Nat.ne_of_beq_eq_false rfl | exact rfl | omega) only [nI_add, xa_sub, xa_mul, pk_div, nm_mod, xa_shr, xa_and7, xa_and1, xa_and255, xa_by_and, nI_m1, Nat.add_sub_cancel, Nat.reducePow, Nat.zero_add, Nat.add_zero, Nat.reduceAdd, Nat.reduceMul, Nat.reduceSub, xf_same, xq_ff, xq_fo, xf_1, xf_2, xs_1, xs_2, xs_same, xq_so, xj_1, xj_2, xj_same, xq_jo, xq_sa1, xq_same, xq_other, upd_s, oI_n, oI_s, xv_0, xv_1, xv_2, xv_3, xm_p1, xm_p2, xq_fp, xq_fn, List.filter_nil, Nat.reduceBEq, Bool.not_true, Bool.not_false, Bool.and_true, Bool.and_false, Bool.false_and, Bool.true_and, if_true, if_false, Bool.false_eq_true, reduceIte, xc_i, xc_j, xc_r, xc_n, List.nil_append, List.cons_append, Option.toList_some, Option.toList_none, nI_ltJ, nI_leJ, nI_eqJ, nI_ltz, nI_gez, nI_gtz, nI_lez, nI_eqz, m1_ltz, m1_gez, true_imp_iff, false_imp_iff, true_and, and_true, ne_eq, not_false_eq_true, not_true_eq_false, Nat.reduceEqDiff, Nat.reduceLT, Nat.reduceLeDiff, s2]
            with_reducible refine xm_go_blk b_X12_kindMade_128 k_X12_kindMade_128 ?_
            refine by_aload_n rfl ?_
            refine by_iload_n rfl ?_
            refine by_inv1 cn_246 lk_12_638 (by rw [xe_cnt]; decide) is_301 np_301 cn_301 (by first | exact rfl | assumption) (Nat.le_of_ble_eq_true rfl) ?_
            refine sp_takesHidden (d := d + 1) F2 m2 w2' b3 (by omega) (fun k5 e64 ok h3 f3 gk go => ?_) (fun nok h3 f3 go => ?_)
            · have eo : sOp t 11 (tkE t p) = some (0, 0, hdW t (tkF t (tkE t p))) := by unfold sOp; rw [if_pos k5, if_neg (by decide), if_pos rfl, if_pos ⟨e64, ok⟩]
              with_reducible refine xm_go_blk b_X12_kindMade_133 k_X12_kindMade_133 ?_
              refine by_istore_n (by rw [ml_246]; decide) ?_
              refine by_nil ?_
              try simp (disch := first | exact Nat.ne_of_beq_eq_false rfl | exact rfl | omega) only [nI_add, xa_sub, xa_mul, pk_div, nm_mod, xa_shr, xa_and7, xa_and1, xa_and255, xa_by_and, nI_m1, Nat.add_sub_cancel, Nat.reducePow, Nat.zero_add, Nat.add_zero, Nat.reduceAdd, Nat.reduceMul, Nat.reduceSub, xf_same, xq_ff, xq_fo, xf_1, xf_2, xs_1, xs_2, xs_same, xq_so, xj_1, xj_2, xj_same, xq_jo, xq_sa1, xq_same, xq_other, upd_s, oI_n, oI_s, xv_0, xv_1, xv_2, xv_3, xm_p1, xm_p2, xq_fp, xq_fn, List.filter_nil, Nat.reduceBEq, Bool.not_true, Bool.not_false, Bool.and_true, Bool.and_false, Bool.false_and, Bool.true_and, if_true, if_false, Bool.false_eq_true, reduceIte, xc_i, xc_j, xc_r, xc_n, List.nil_append, List.cons_append, Option.toList_some, Option.toList_none]
              with_reducible refine xm_go_blk b_X12_kindMade_134 k_X12_kindMade_134 ?_
              refine by_iload_n rfl ?_
              refine by_if_eq 142 rfl ?_
              simp (disch := first | exact Nat.ne_of_beq_eq_false rfl | exact rfl | omega) only [nI_add, xa_sub, xa_mul, pk_div, nm_mod, xa_shr, xa_and7, xa_and1, xa_and255, xa_by_and, nI_m1, Nat.add_sub_cancel, Nat.reducePow, Nat.zero_add, Nat.add_zero, Nat.reduceAdd, Nat.reduceMul, Nat.reduceSub, xf_same, xq_ff, xq_fo, xf_1, xf_2, xs_1, xs_2, xs_same, xq_so, xj_1, xj_2, xj_same, xq_jo, xq_sa1, xq_same, xq_other, upd_s, oI_n, oI_s, xv_0, xv_1, xv_2, xv_3, xm_p1, xm_p2, xq_fp, xq_fn, List.filter_nil, Nat.reduceBEq, Bool.not_true, Bool.not_false, Bool.and_true, Bool.and_false, Bool.false_and, Bool.true_and, if_true, if_false, Bool.false_eq_true, reduceIte, xc_i, xc_j, xc_r, xc_n, List.nil_append, List.cons_append, Option.toList_some, Option.toList_none, nI_ltJ, nI_leJ, nI_eqJ, nI_ltz, nI_gez, nI_gtz, nI_lez, nI_eqz, m1_ltz, m1_gez, true_imp_iff, false_imp_iff, true_and, and_true, ne_eq, not_false_eq_true, not_true_eq_false, Nat.reduceEqDiff, Nat.reduceLT, Nat.reduceLeDiff]
              with_reducible refine xm_go_blk b_X12_kindMade_138 k_X12_kindMade_138 ?_
              refine by_iload_n rfl ?_
              refine by_goto 151 rfl ?_
              with_reducible refine xm_go_blk b_X12_kindMade_151 k_X12_kindMade_151 ?_
              refine by_iret ry_246 (by first | rfl | assumption) ?_
              exact hy _ hnf c9 eo h3 (Fr_tr fb2 f3 (by simp) (by simp)) (mT1_add hT' hsl (Fr_tr gf2 f3 (by simp) (by simp)) (by rw [f3.2.2 _ _ (by simp)]; exact c2) (mG0_new (mG0_k g2 (fun r m hm hr => by rw [f3.1 r (by simp only [List.mem_cons, List.not_mem_nil, or_false] at hr ⊢; omega)]) (fun j hj => go j hj)) (by rw [f3.1 _ (by simp), e1]; exact r1) (by rw [f3.1 _ (by simp), e1]; exact r2) (by rw [f3.1 _ (by simp), e1]; exact r3) (by rw [f3.1 _ (by simp), e1]; exact r4) (by rw [f3.1 _ (by simp), e1]; exact r5) (fun _ => gk))) (by rw [f3.2.2 _ _ (by simp)]; exact w21) (by rw [f3.2.2 _ _ (by simp)]; exact q2)
            · have eo : sOp t 11 (tkE t p) = none := by
                unfold sOp
                by_cases k5 : tkK t (tkE t p) = 5
                · rw [if_pos k5, if_neg (by decide), if_pos rfl, if_neg (fun z => nok ⟨k5, z.1, z.2⟩)]
                · rw [if_neg k5]
              with_reducible refine xm_go_blk b_X12_kindMade_133 k_X12_kindMade_133 ?_
              refine by_istore_n (by rw [ml_246]; decide) ?_
              refine by_nil ?_
              try simp (disch := first | exact Nat.ne_of_beq_eq_false rfl | exact rfl | omega) only [nI_add, xa_sub, xa_mul, pk_div, nm_mod, xa_shr, xa_and7, xa_and1, xa_and255, xa_by_and, nI_m1, Nat.add_sub_cancel, Nat.reducePow, Nat.zero_add, Nat.add_zero, Nat.reduceAdd, Nat.reduceMul, Nat.reduceSub, xf_same, xq_ff, xq_fo, xf_1, xf_2, xs_1, xs_2, xs_same, xq_so, xj_1, xj_2, xj_same, xq_jo, xq_sa1, xq_same, xq_other, upd_s, oI_n, oI_s, xv_0, xv_1, xv_2, xv_3, xm_p1, xm_p2, xq_fp, xq_fn, List.filter_nil, Nat.reduceBEq, Bool.not_true, Bool.not_false, Bool.and_true, Bool.and_false, Bool.false_and, Bool.true_and, if_true, if_false, Bool.false_eq_true, reduceIte, xc_i, xc_j, xc_r, xc_n, List.nil_append, List.cons_append, Option.toList_some, Option.toList_none]
              exact xm_go_wk (by simp [Value.category]) (bad _ [] eo (Fr_tr fb2 f3 (by simp) (by simp)) (by rw [f3.2.2 _ _ (by simp)]; exact s2) (by rw [f3.2.2 _ _ (by simp)]; exact w22))
end SY
