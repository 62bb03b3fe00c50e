/-! ===== the reference: settled, whole; the types of one node ===== -/
section ST
variable {sc : xm_Sc} {d c cn : Nat} {k l r rt K L R : Nat → Nat} {tr : Nat → Ty} {fd : Nat → Option Ty} {h : xm_H} {post : xm_Po}
theorem sp_settled {xx : Nat} (hc : c ≤ 14010) (hF : XF h) (hI : stI h c k l r rt fd [] cn tr K L R) (hx : xx < c)
    (hT : ∀ h' fd' cn' tr' K' L' R' i, Fr stR stT h h' → kpT h h' → stI h' c k l r rt fd' [] cn' tr' K' L' R' → rvX cn cn' tr tr' fd fd' → 3200 ≤ i → i < cn' → fd' (rt xx) = some (tr' i) → post (some (.int (nI i))) h')
    (hB : ∀ h', Fr stR stT h h' → kpT h h' → (∀ V, ty_all c k l r V → ty_lnk c rt V → False) → post (some (.int (-1))) h') : xm_T (XE sc) (d + 3) 292 [.ref 102, .int (nI xx)] h post := by
  have key : ∀ (f : Nat) (q : List Nat) (fd' : Nat → Option Ty) (cn' : Nat) (tr' : Nat → Ty) (K' L' R' : Nat → Nat) (h' : xm_H), Fr stR stT h h' → kpT h h' → stS h' c k l r rt fd' q cn' tr' K' L' R' → 3 * rs_m fd' q c + 2 * q.length ≤ f + rs_b fd' q → rvX cn cn' tr tr' fd fd' → (rt xx ∈ q ∨ fd' (rt xx) ≠ none) → xm_go (XE sc) (xm_T (XE sc) (d + 2)) 292 post 13 (stL xx q.length) [] h' := by
    have fin : ∀ (fd' : Nat → Option Ty) (cn' : Nat) (tr' : Nat → Ty) (K' L' R' : Nat → Nat) (h' : xm_H), Fr stR stT h h' → kpT h h' → stS h' c k l r rt fd' [] cn' tr' K' L' R' → rvX cn cn' tr tr' fd fd' → (rt xx ∈ ([] : List Nat) ∨ fd' (rt xx) ≠ none) → xm_go (XE sc) (xm_T (XE sc) (d + 2)) 292 post 13 (stL xx 0) [] h' := by
      intro fd' cn' tr' K' L' R' h' hf hk hS hX hr
      have hr' : fd' (rt xx) ≠ none := by
        rcases hr with z | z
        · cases z
        · exact z
      obtain ⟨a, ha⟩ := rs_some hr'
      obtain ⟨s1, s2, s3⟩ := hS
      have s2' := s2
      obtain ⟨⟨u, dd, m, u1, u2⟩, i2, i3, i4, i5, i6, i7⟩ := s2'
      have hG := uf_G (k := k) (l := l) (r := r) u2 (fun t ht => ⟨(i2 t ht).2.1, fun e => ((i2 t ht).2.2 e).2.2⟩)
      have hxc := (hG.1 _ hx).1
      obtain ⟨i, b1, b2, b3, b4⟩ := (i7 _ hxc).1 a ha
      unfold stL
      with_reducible refine xm_go_blk b_X12_settled_13 k_X12_settled_13 ?_
      refine by_iload_n rfl ?_
      refine by_if_le 203 rfl ?_
      simp (disch := first | exact Nat.ne_of_beq_eq_false rfl | exact rfl | omega) only [nI_add, xa_sub, xa_mul, pk_div, nm_mod, xa_shr, xa_and7, xa_and1, xa_and255, xa_by_and, nI_m1, Nat.add_sub_cancel, Nat.reducePow, Nat.zero_add, Nat.add_zero, Nat.reduceAdd, Nat.reduceMul, Nat.reduceSub, xf_same, xq_ff, xq_fo, xf_1, xf_2, xs_1, xs_2, xs_same, xq_so, xj_1, xj_2, xj_same, xq_jo, xq_sa1, xq_same, xq_other, upd_s, oI_n, oI_s, xv_0, xv_1, xv_2, xv_3, xm_p1, xm_p2, xq_fp, xq_fn, List.filter_nil, Nat.reduceBEq, Bool.not_true, Bool.not_false, Bool.and_true, Bool.and_false, Bool.false_and, Bool.true_and, if_true, if_false, Bool.false_eq_true, reduceIte, xc_i, xc_j, xc_r, xc_n, List.nil_append, List.cons_append, Option.toList_some, Option.toList_none, nI_ltJ, nI_leJ, nI_eqJ, nI_ltz, nI_gez, nI_gtz, nI_lez, nI_eqz, m1_ltz, m1_gez, true_imp_iff, false_imp_iff, true_and, and_true, ne_eq, not_false_eq_true, not_true_eq_false, Nat.reduceEqDiff, Nat.reduceLT, Nat.reduceLeDiff, xf_102_55 s1]
      with_reducible refine xm_go_blk b_X12_settled_203 k_X12_settled_203 ?_
      refine by_aload_n rfl ?_
      refine by_getf cn_292 fl_12_130 (by first | exact rfl | assumption) (by decide) ?_
      refine by_aload_n rfl ?_
      refine by_iload_n rfl ?_
      simp (disch := first | exact Nat.ne_of_beq_eq_false rfl | exact rfl | omega) only [nI_add, xa_sub, xa_mul, pk_div, nm_mod, xa_shr, xa_and7, xa_and1, xa_and255, xa_by_and, nI_m1, Nat.add_sub_cancel, Nat.reducePow, Nat.zero_add, Nat.add_zero, Nat.reduceAdd, Nat.reduceMul, Nat.reduceSub, xf_same, xq_ff, xq_fo, xf_1, xf_2, xs_1, xs_2, xs_same, xq_so, xj_1, xj_2, xj_same, xq_jo, xq_sa1, xq_same, xq_other, upd_s, oI_n, oI_s, xv_0, xv_1, xv_2, xv_3, xm_p1, xm_p2, xq_fp, xq_fn, List.filter_nil, Nat.reduceBEq, Bool.not_true, Bool.not_false, Bool.and_true, Bool.and_false, Bool.false_and, Bool.true_and, if_true, if_false, Bool.false_eq_true, reduceIte, xc_i, xc_j, xc_r, xc_n, List.nil_append, List.cons_append, Option.toList_some, Option.toList_none, xf_102_55 s1]
      refine by_inv1 cn_292 lk_12_240 (by rw [xe_cnt]; decide) is_223 np_223 cn_223 (by first | exact rfl | assumption) (Nat.le_of_ble_eq_true rfl) ?_
      refine sp_mfind s1 (by omega) hx u1 u2 ?_
      with_reducible refine xm_go_blk b_X12_settled_212 k_X12_settled_212 ?_
      first | refine by_iald (by first | exact rfl | assumption | exact ps_1 hpp | exact ps_2 hpp | exact ps_3 hpp | exact ps_4 hpp | exact ps_5 hpp | exact ps_6 hpp | exact ps_7 hpp | exact ps_8 hpp | exact ps_9 hpp | exact ps_10 hpp | exact ps_11 hpp | exact ps_15 hpp | exact ps_16 hpp | exact ps_17 hpp | exact ps_18 hpp | exact ps_19 hpp | exact ps_21 hpp | exact ps_22 hpp | exact ps_23 hpp | exact ps_24 hpp) ⟨by omega, by omega⟩ ?_ | refine by_tald rfl rfl ⟨by omega, by omega⟩ ?_
      simp (disch := first | exact Nat.ne_of_beq_eq_false rfl | exact rfl | omega) only [nI_add, xa_sub, xa_mul, pk_div, nm_mod, xa_shr, xa_and7, xa_and1, xa_and255, xa_by_and, nI_m1, Nat.add_sub_cancel, Nat.reducePow, Nat.zero_add, Nat.add_zero, Nat.reduceAdd, Nat.reduceMul, Nat.reduceSub, xf_same, xq_ff, xq_fo, xf_1, xf_2, xs_1, xs_2, xs_same, xq_so, xj_1, xj_2, xj_same, xq_jo, xq_sa1, xq_same, xq_other, upd_s, oI_n, oI_s, b3]
      refine by_iret ry_292 (by first | rfl | assumption) ?_
      exact hT h' fd' cn' tr' K' L' R' i hf hk s2 hX b1 b2 (by rw [ha, b4])
    intro f
    induction f with
    | zero =>
      intro q fd' cn' tr' K' L' R' h' hf hk hS hm hX hr
      cases q with
      | nil => exact fin fd' cn' tr' K' L' R' h' hf hk hS hX hr
      | cons t q =>
        exfalso
        have := rs_b1 (fd := fd') (t := t) (q := q)
        simp only [List.length_cons] at hm
        omega
    | succ f ih =>
      intro q fd' cn' tr' K' L' R' h' hf hk hS hm hX hr
      cases q with
      | nil => exact fin fd' cn' tr' K' L' R' h' hf hk hS hX hr
      | cons t q =>
        simp only [List.length_cons] at hm
        by_cases hn : fd' t = none
        · have hb : rs_b fd' (t :: q) = 0 := by simp [rs_b, hn]
          rw [hb] at hm
          by_cases hk1 : k t ≤ 1
          · refine st_b hc hS hn hk1 (fun h2 hf2 hk2 hS2 => ?_)
            refine ih (t :: q) _ _ _ _ _ _ _ (Fr_tr hf hf2 (fun _ z => z) (fun _ z => z)) (kpT_tr hk hk2) hS2 ?_ (rvX_tr hX (rvX_up (Nat.le_refl _) (fun _ _ => rfl) hn)) ?_
            · rw [rs_m_set]
              simp only [rs_b, rs_up_same, Option.isSome_some, if_true, List.length_cons]
              omega
            · rcases hr with z | z
              · exact Or.inl z
              · right
                obtain ⟨a, e⟩ := rs_some z
                rw [rs_up_of hn e]; simp
          · refine st_c hc hS hn (by omega) (fun h2 cn2 tr2 K2 L2 R2 a hf2 hk2 hS2 hX2 => ?_) (fun h2 u hf2 hk2 hS2 hu hu1 huc => ?_) (fun h2 hf2 hk2 hb => hB h2 (Fr_tr hf hf2 (fun _ z => z) (fun _ z => z)) (kpT_tr hk hk2) hb)
            · refine ih (t :: q) _ _ _ _ _ _ _ (Fr_tr hf hf2 (fun _ z => z) (fun _ z => z)) (kpT_tr hk hk2) hS2 ?_ (rvX_tr hX hX2) ?_
              · rw [rs_m_set]
                simp only [rs_b, rs_up_same, Option.isSome_some, if_true, List.length_cons]
                omega
              · rcases hr with z | z
                · exact Or.inl z
                · right
                  obtain ⟨a, e⟩ := rs_some z
                  rw [rs_up_of hn e]; simp
            · refine ih (u :: t :: q) _ _ _ _ _ _ _ (Fr_tr hf hf2 (fun _ z => z) (fun _ z => z)) (kpT_tr hk hk2) hS2 ?_ hX ?_
              · have := rs_m_push (c := c) hu hu1 huc
                have hb2 : rs_b fd' (u :: t :: q) = 0 := by simp [rs_b, hu]
                rw [hb2]
                simp only [List.length_cons]
                omega
              · rcases hr with z | z
                · exact Or.inl (List.mem_cons_of_mem _ z)
                · exact Or.inr z
        · have hb := rs_b1 (fd := fd') (t := t) (q := q)
          refine st_a hc hS hn (fun hS2 => ?_)
          refine ih q _ _ _ _ _ _ _ hf hk hS2 ?_ hX ?_
          · rw [rs_m_pop hn]
            omega
          · rcases hr with z | z
            · rcases List.mem_cons.mp z with z | z
              · right; rw [z]; exact hn
              · exact Or.inl z
            · exact Or.inr z
  obtain ⟨⟨u, dd, m, u1, u2⟩, i2, i3, i4, i5, i6, i7⟩ := hI
  have hG := uf_G (k := k) (l := l) (r := r) u2 (fun t ht => ⟨(i2 t ht).2.1, fun e => ((i2 t ht).2.2 e).2.2⟩)
  obtain ⟨xc, xr⟩ := hG.1 _ hx
  refine xq_in rfl ?_
  simp only [xq_a0, xq_aI, xq_aJ, xq_aR, Nat.reduceAdd]
  with_reducible refine xm_go_blk b_X12_settled_0 k_X12_settled_0 ?_
  refine by_iconst ci_1 ?_
  refine by_istore_n (by rw [ml_292]; decide) ?_
  refine by_aload_n rfl ?_
  refine by_getf cn_292 fl_12_48 (by first | exact rfl | assumption) (by decide) ?_
  refine by_iconst ci_0 ?_
  refine by_aload_n rfl ?_
  refine by_iload_n rfl ?_
  simp (disch := first | exact Nat.ne_of_beq_eq_false rfl | exact rfl | omega) only [nI_add, xa_sub, xa_mul, pk_div, nm_mod, xa_shr, xa_and7, xa_and1, xa_and255, xa_by_and, nI_m1, Nat.add_sub_cancel, Nat.reducePow, Nat.zero_add, Nat.add_zero, Nat.reduceAdd, Nat.reduceMul, Nat.reduceSub, xf_same, xq_ff, xq_fo, xf_1, xf_2, xs_1, xs_2, xs_same, xq_so, xj_1, xj_2, xj_same, xq_jo, xq_sa1, xq_same, xq_other, upd_s, oI_n, oI_s, xv_0, xv_1, xv_2, xv_3, xm_p1, xm_p2, xq_fp, xq_fn, List.filter_nil, Nat.reduceBEq, Bool.not_true, Bool.not_false, Bool.and_true, Bool.and_false, Bool.false_and, Bool.true_and, if_true, if_false, Bool.false_eq_true, reduceIte, xc_i, xc_j, xc_r, xc_n, List.nil_append, List.cons_append, Option.toList_some, Option.toList_none, xf_102_17 hF]
  refine by_inv1 cn_292 lk_12_240 (by rw [xe_cnt]; decide) is_223 np_223 cn_223 (by first | exact rfl | assumption) (Nat.le_of_ble_eq_true rfl) ?_
  refine sp_mfind hF (by omega) hx u1 u2 ?_
  with_reducible refine xm_go_blk b_X12_settled_12 k_X12_settled_12 ?_
  refine by_iast (by first | exact rfl | assumption | exact ps_1 hpp | exact ps_2 hpp | exact ps_3 hpp | exact ps_4 hpp | exact ps_5 hpp | exact ps_6 hpp | exact ps_7 hpp | exact ps_8 hpp | exact ps_9 hpp | exact ps_10 hpp | exact ps_11 hpp | exact ps_15 hpp | exact ps_16 hpp | exact ps_17 hpp | exact ps_18 hpp | exact ps_19 hpp | exact ps_21 hpp | exact ps_22 hpp | exact ps_23 hpp | exact ps_24 hpp) ⟨by omega, by omega⟩ ?_
  refine by_nil ?_
  have f1 : Fr [115] [] h (xm_si h 115 0 (nI (rt xx))) := Fr_si Fr_rf (by simp)
  have hkey := key 55000 [rt xx] fd cn tr K L R (xm_si h 115 0 (nI (rt xx))) (Fr_mo f1 (by simp [stR]) (by simp)) (kpT_fr f1 (fun a h1 h2 => by simp; omega)) ⟨Fr_XF hF f1 (by decide +kernel), ⟨⟨u, dd, m, upA_fr u1 f1 (by simp), u2⟩, mnA_fr i2 f1 (by simp) (by simp) (by simp), mtT_fr i3 f1 (by simp) (by simp [mtR]), ?_, i5, ⟨by simp, by simp; exact ⟨xc, xr⟩, ⟨by simp, trivial⟩, by simp⟩, ?_⟩, ⟨by rw [List.length_nil, xs_same, upd_s], trivial⟩⟩ ?_ rvX_rf (Or.inl (by simp))
  · unfold stL at hkey
    exact xm_go_wk (by simp [Value.category]) hkey
  · by_cases e : fd (rt xx) = none
    · have := rs_m_push (c := c) (q := []) e (by simp) xc
      simp only [rs_b, e, Option.isSome_none, Bool.false_eq_true, if_false, List.length_cons, List.length_nil] at i4 ⊢
      omega
    · have h1 := rs_m_pop (c := c) (q := []) e
      have h2 := rs_isS e
      simp only [rs_b, h2, if_true, List.length_cons, List.length_nil] at i4 ⊢
      omega
  · rw [f1.1 142 (by simp)]
    intro s hs
    obtain ⟨g1, g2⟩ := i7 s hs
    refine ⟨g1, fun e => ?_⟩
    have := (g2 e).1 (by simp)
    exact ⟨fun _ => this, fun z => by simp at z, fun _ => Or.inl this⟩
  · have := rs_m_le fd [rt xx] c
    simp only [List.length_cons, List.length_nil]
    omega
end ST
/-! ===== the reference: findTypes, its last loop ===== -/
def ftW (rt : Nat → Nat) (fd : Nat → Option Ty) (src tgt : Nat → Nat) (n : Nat) : Prop := 2048 < ty_w (rs_V rt fd (src n)) ∨ 2048 < ty_w (rs_V rt fd (tgt n))
section FT
variable {sc : xm_Sc} {d N c cn : Nat} {cd fi se nu k l r rt src tgt K Lf R : Nat → Nat} {tr : Nat → Ty} {fd : Nat → Option Ty} {h : xm_H} {post : xm_Po}
def ftJ (h : xm_H) (c : Nat) (cd k l r rt src tgt : Nat → Nat) (A B : List Nat) (fd : Nat → Option Ty) (cn : Nat) (tr : Nat → Ty) (K Lf R : Nat → Nat) : Prop :=
  XF h ∧ stI h c k l r rt fd [] cn tr K Lf R ∧ (∀ n ∈ A, cd n ≠ 11 → ∃ i j, 3200 ≤ i ∧ i < cn ∧ 3200 ≤ j ∧ j < cn ∧ h.1 111 n = nI i ∧ fd (rt (src n)) = some (tr i) ∧ h.1 112 n = nI j ∧ fd (rt (tgt n)) = some (tr j)) ∧ ∀ n ∈ B, cd n ≠ 11 → h.1 111 n = nI (src n) ∧ h.1 112 n = nI (tgt n)
def ftR : List Nat := [111, 112, 115, 142, 129, 130, 131, 132, 133, 134, 135, 136]
theorem rs_V_up {rt : Nat → Nat} {fd fd' : Nat → Option Ty} {t : Nat} {a : Ty} (h : fd (rt t) = some a) (hX : ∀ t a, fd t = some a → fd' t = some a) : rs_V rt fd' t = rs_V rt fd t := by
  unfold rs_V
  rw [h, hX _ _ h]
theorem Fr_ft {h h' : xm_H} (hf : Fr stR stT h h') : Fr ftR stT h h' := Fr_mo hf (by simp [stR, ftR]) (fun _ z => z)
/-- wider than it may be -/
theorem ft_w {i : Nat} (hT : mtT h cn tr K Lf R) (h1 : 3200 ≤ i) (h2 : i < cn) : h.1 132 i = nI (min 4096 (ty_w (tr i))) := (hT.2.2.1 i h1 h2).2.2.2.2.2.2.2.1
theorem ft_1 {n i0 g : Nat} {A B : List Nat} (hc : c ≤ 14010) (hJ : ftJ h c cd k l r rt src tgt A (n :: B) fd cn tr K Lf R) (hn2 : n < 2000) (hnA : n ∉ A) (hnB : n ∉ B) (hv : cd n ≠ 11) (hsc : src n < c) (htc : tgt n < c) (hg1 : g ≤ 1)
    (hgo : ∀ h' fd' cn' tr' K' L' R' g', Fr ftR stT h h' → kpT h h' → ftJ h' c cd k l r rt src tgt (A ++ [n]) B fd' cn' tr' K' L' R' → rvX cn cn' tr tr' fd fd' → (g' ≤ 1 ∧ (g' = 1 ↔ g = 1 ∨ ftW rt fd' src tgt n)) → xm_go (XE sc) (xm_T (XE sc) (d + 3)) 224 post 189 [(0, .ref 102), (1, .int (nI g')), (2, .int (nI i0))] [] h')
    (hB : ∀ h', Fr ftR stT h h' → kpT h h' → (∀ V, ty_all c k l r V → ty_lnk c rt V → False) → post (some (.int (nI 8))) h') :
    xm_go (XE sc) (xm_T (XE sc) (d + 3)) 224 post 96 [(3, .int (nI n)), (0, .ref 102), (1, .int (nI g)), (2, .int (nI i0))] [] h := by
  obtain ⟨s1, s2, s3, s4⟩ := hJ
  obtain ⟨b1, b2⟩ := s4 n (List.mem_cons_self ..) hv
  with_reducible refine xm_go_blk b_X12_findTypes_96 k_X12_findTypes_96 ?_
  refine by_aload_n rfl ?_
  refine by_aload_n rfl ?_
  refine by_getf cn_224 fl_12_34 (by first | exact rfl | assumption) (by decide) ?_
  refine by_iload_n rfl ?_
  simp (disch := first | exact Nat.ne_of_beq_eq_false rfl | exact rfl | omega) only [nI_add, xa_sub, xa_mul, pk_div, nm_mod, xa_shr, xa_and7, xa_and1, xa_and255, xa_by_and, nI_m1, Nat.add_sub_cancel, Nat.reducePow, Nat.zero_add, Nat.add_zero, Nat.reduceAdd, Nat.reduceMul, Nat.reduceSub, xf_same, xq_ff, xq_fo, xf_1, xf_2, xs_1, xs_2, xs_same, xq_so, xj_1, xj_2, xj_same, xq_jo, xq_sa1, xq_same, xq_other, upd_s, oI_n, oI_s, xf_102_12 s1, b1]
  first | refine by_iald (by first | exact rfl | assumption | exact ps_1 hpp | exact ps_2 hpp | exact ps_3 hpp | exact ps_4 hpp | exact ps_5 hpp | exact ps_6 hpp | exact ps_7 hpp | exact ps_8 hpp | exact ps_9 hpp | exact ps_10 hpp | exact ps_11 hpp | exact ps_15 hpp | exact ps_16 hpp | exact ps_17 hpp | exact ps_18 hpp | exact ps_19 hpp | exact ps_21 hpp | exact ps_22 hpp | exact ps_23 hpp | exact ps_24 hpp) ⟨by omega, by omega⟩ ?_ | refine by_tald rfl rfl ⟨by omega, by omega⟩ ?_
  simp (disch := first | exact Nat.ne_of_beq_eq_false rfl | exact rfl | omega) only [nI_add, xa_sub, xa_mul, pk_div, nm_mod, xa_shr, xa_and7, xa_and1, xa_and255, xa_by_and, nI_m1, Nat.add_sub_cancel, Nat.reducePow, Nat.zero_add, Nat.add_zero, Nat.reduceAdd, Nat.reduceMul, Nat.reduceSub, xf_same, xq_ff, xq_fo, xf_1, xf_2, xs_1, xs_2, xs_same, xq_so, xj_1, xj_2, xj_same, xq_jo, xq_sa1, xq_same, xq_other, upd_s, oI_n, oI_s, xv_0, xv_1, xv_2, xv_3, xm_p1, xm_p2, xq_fp, xq_fn, List.filter_nil, Nat.reduceBEq, Bool.not_true, Bool.not_false, Bool.and_true, Bool.and_false, Bool.false_and, Bool.true_and, if_true, if_false, Bool.false_eq_true, reduceIte, xc_i, xc_j, xc_r, xc_n, List.nil_append, List.cons_append, Option.toList_some, Option.toList_none, xf_102_12 s1, b1]
  refine by_inv1 cn_224 lk_12_280 (by rw [xe_cnt]; decide) is_292 np_292 cn_292 (by first | exact rfl | assumption) (Nat.le_of_ble_eq_true rfl) ?_
  refine sp_settled hc s1 s2 hsc (fun h1 fd1 cn1 tr1 K1 L1 R1 p g1 kp1 j1 x1 p1 p2 p3 => ?_) (fun h1 g1 kp1 hb => ?_)
  · have F1 : XF h1 := Fr_XF s1 g1 st_fin
    have b2' : h1.1 112 n = nI (tgt n) := by rw [g1.1 112 (by simp [stR])]; exact b2
    have hcn1 : cn1 < 17400 := by
      have := j1.2.2.2.1
      have h0 : rs_b fd1 [] = 0 := rfl
      rw [h0] at this
      omega
    with_reducible refine xm_go_blk b_X12_findTypes_106 k_X12_findTypes_106 ?_
    refine by_istore (by rw [ml_224]; decide) ?_
    refine by_iload rfl ?_
    refine by_if_ge 117 rfl ?_
    simp (disch := first | exact Nat.ne_of_beq_eq_false rfl | exact rfl | omega) only [nI_add, xa_sub, xa_mul, pk_div, nm_mod, xa_shr, xa_and7, xa_and1, xa_and255, xa_by_and, nI_m1, Nat.add_sub_cancel, Nat.reducePow, Nat.zero_add, Nat.add_zero, Nat.reduceAdd, Nat.reduceMul, Nat.reduceSub, xf_same, xq_ff, xq_fo, xf_1, xf_2, xs_1, xs_2, xs_same, xq_so, xj_1, xj_2, xj_same, xq_jo, xq_sa1, xq_same, xq_other, upd_s, oI_n, oI_s, xv_0, xv_1, xv_2, xv_3, xm_p1, xm_p2, xq_fp, xq_fn, List.filter_nil, Nat.reduceBEq, Bool.not_true, Bool.not_false, Bool.and_true, Bool.and_false, Bool.false_and, Bool.true_and, if_true, if_false, Bool.false_eq_true, reduceIte, xc_i, xc_j, xc_r, xc_n, List.nil_append, List.cons_append, Option.toList_some, Option.toList_none, nI_ltJ, nI_leJ, nI_eqJ, nI_ltz, nI_gez, nI_gtz, nI_lez, nI_eqz, m1_ltz, m1_gez, true_imp_iff, false_imp_iff, true_and, and_true, ne_eq, not_false_eq_true, not_true_eq_false, Nat.reduceEqDiff, Nat.reduceLT, Nat.reduceLeDiff, xf_102_13 F1, b2']
    with_reducible refine xm_go_blk b_X12_findTypes_117 k_X12_findTypes_117 ?_
    refine by_aload_n rfl ?_
    refine by_aload_n rfl ?_
    refine by_getf cn_224 fl_12_37 (by first | exact rfl | assumption) (by decide) ?_
    refine by_iload_n rfl ?_
    simp (disch := first | exact Nat.ne_of_beq_eq_false rfl | exact rfl | omega) only [nI_add, xa_sub, xa_mul, pk_div, nm_mod, xa_shr, xa_and7, xa_and1, xa_and255, xa_by_and, nI_m1, Nat.add_sub_cancel, Nat.reducePow, Nat.zero_add, Nat.add_zero, Nat.reduceAdd, Nat.reduceMul, Nat.reduceSub, xf_same, xq_ff, xq_fo, xf_1, xf_2, xs_1, xs_2, xs_same, xq_so, xj_1, xj_2, xj_same, xq_jo, xq_sa1, xq_same, xq_other, upd_s, oI_n, oI_s, xf_102_13 F1, b2']
    first | refine by_iald (by first | exact rfl | assumption | exact ps_1 hpp | exact ps_2 hpp | exact ps_3 hpp | exact ps_4 hpp | exact ps_5 hpp | exact ps_6 hpp | exact ps_7 hpp | exact ps_8 hpp | exact ps_9 hpp | exact ps_10 hpp | exact ps_11 hpp | exact ps_15 hpp | exact ps_16 hpp | exact ps_17 hpp | exact ps_18 hpp | exact ps_19 hpp | exact ps_21 hpp | exact ps_22 hpp | exact ps_23 hpp | exact ps_24 hpp) ⟨by omega, by omega⟩ ?_ | refine by_tald rfl rfl ⟨by omega, by omega⟩ ?_
    simp (disch := first | exact Nat.ne_of_beq_eq_false rfl | exact rfl | omega) only [nI_add, xa_sub, xa_mul, pk_div, nm_mod, xa_shr, xa_and7, xa_and1, xa_and255, xa_by_and, nI_m1, Nat.add_sub_cancel, Nat.reducePow, Nat.zero_add, Nat.add_zero, Nat.reduceAdd, Nat.reduceMul, Nat.reduceSub, xf_same, xq_ff, xq_fo, xf_1, xf_2, xs_1, xs_2, xs_same, xq_so, xj_1, xj_2, xj_same, xq_jo, xq_sa1, xq_same, xq_other, upd_s, oI_n, oI_s, xv_0, xv_1, xv_2, xv_3, xm_p1, xm_p2, xq_fp, xq_fn, List.filter_nil, Nat.reduceBEq, Bool.not_true, Bool.not_false, Bool.and_true, Bool.and_false, Bool.false_and, Bool.true_and, if_true, if_false, Bool.false_eq_true, reduceIte, xc_i, xc_j, xc_r, xc_n, List.nil_append, List.cons_append, Option.toList_some, Option.toList_none, xf_102_13 F1, b2']
    refine by_inv1 cn_224 lk_12_280 (by rw [xe_cnt]; decide) is_292 np_292 cn_292 (by first | exact rfl | assumption) (Nat.le_of_ble_eq_true rfl) ?_
    refine sp_settled hc F1 j1 htc (fun h2 fd2 cn2 tr2 K2 L2 R2 w g2 kp2 j2 x2 w1 w2 w3 => ?_) (fun h2 g2 kp2 hb => ?_)
    · have F2 : XF h2 := Fr_XF F1 g2 st_fin
      have hcn2 : cn2 < 17400 := by
        have := j2.2.2.2.1
        have h0 : rs_b fd2 [] = 0 := rfl
        rw [h0] at this
        omega
      have hcx := x2.1
      have q1 := ft_w j2.2.2.1 p1 (show p < cn2 by omega)
      have q2 := ft_w j2.2.2.1 w1 w2
      have X := rvX_tr x1 x2
      have p3' : fd2 (rt (src n)) = some (tr2 p) := by rw [x2.2.2 _ _ p3, x2.2.1 _ p2]
      have e1 : rs_V rt fd2 (src n) = tr2 p := by unfold rs_V; rw [p3']; rfl
      have e2 : rs_V rt fd2 (tgt n) = tr2 w := by unfold rs_V; rw [w3]; rfl
      have fA : Fr [111, 112] [] h2 (xm_si (xm_si h2 111 n (nI p)) 112 n (nI w)) := Fr_si (Fr_si Fr_rf (by simp)) (by simp)
      have g12 : Fr stR stT h h2 := Fr_tr g1 g2 (fun _ z => z) (fun _ z => z)
      have hfin : Fr ftR stT h (xm_si (xm_si h2 111 n (nI p)) 112 n (nI w)) := Fr_tr (Fr_ft g12) fA (by simp [ftR]) (by simp)
      have hkp : kpT h (xm_si (xm_si h2 111 n (nI p)) 112 n (nI w)) := kpT_tr (kpT_tr kp1 kp2) (kpT_fr fA (fun a h1 h2 => by simp; omega))
      obtain ⟨⟨u, dd, m, u1, u2⟩, i2, i3, i4, i5, i6, i7⟩ := j2
      have hJ2 : ftJ (xm_si (xm_si h2 111 n (nI p)) 112 n (nI w)) c cd k l r rt src tgt (A ++ [n]) B fd2 cn2 tr2 K2 L2 R2 := by
        refine ⟨Fr_XF F2 fA (by decide +kernel), ⟨⟨u, dd, m, upA_fr u1 fA (by simp), u2⟩, mnA_fr i2 fA (by simp) (by simp) (by simp), mtT_fr i3 fA (by simp) (by simp [mtR]), i4, i5, i6, by rw [fA.1 142 (by simp)]; exact i7⟩, fun q hq hqv => ?_, fun q hq hqv => ?_⟩
        · rcases List.mem_append.mp hq with hq | hq
          · have hqn : q ≠ n := fun z => hnA (by rw [← z]; exact hq)
            obtain ⟨i', j', a0, a1, a2, a3, a4, a5, a6, a7⟩ := s3 q hq hqv
            have := X.1
            refine ⟨i', j', a0, by omega, a2, by omega, ?_, ?_, ?_, ?_⟩
            · rw [(ml_ss hqn).1, g12.1 111 (by simp [stR])]; exact a4
            · rw [X.2.2 _ _ a5, X.2.1 _ a1]
            · rw [(ml_ss hqn).2, g12.1 112 (by simp [stR])]; exact a6
            · rw [X.2.2 _ _ a7, X.2.1 _ a3]
          · rw [List.mem_singleton.mp hq]
            exact ⟨p, w, p1, by omega, w1, w2, ml_sn.1, p3', ml_sn.2, w3⟩
        · have hqn : q ≠ n := fun z => hnB (by rw [← z]; exact hq)
          rw [(ml_ss hqn).1, (ml_ss hqn).2, g12.1 111 (by simp [stR]), g12.1 112 (by simp [stR])]
          exact s4 q (List.mem_cons_of_mem _ hq) hqv
      have hW : ftW rt fd2 src tgt n ↔ (2048 < ty_w (tr2 p) ∨ 2048 < ty_w (tr2 w)) := by unfold ftW; rw [e1, e2]
      rcases (by omega : g = 0 ∨ g = 1) with rfl | rfl
      · by_cases z1 : 2048 < ty_w (tr2 p)
        · have hg := hgo _ fd2 cn2 tr2 K2 L2 R2 1 hfin hkp hJ2 X ⟨by decide, fun _ => Or.inr (hW.mpr (Or.inl z1)), fun _ => rfl⟩
          with_reducible refine xm_go_blk b_X12_findTypes_127 k_X12_findTypes_127 ?_
          refine by_istore (by rw [ml_224]; decide) ?_
          refine by_iload rfl ?_
          refine by_if_ge 137 rfl ?_
          simp (disch := first | exact Nat.ne_of_beq_eq_false rfl | exact rfl | omega) only [nI_add, xa_sub, xa_mul, pk_div, nm_mod, xa_shr, xa_and7, xa_and1, xa_and255, xa_by_and, nI_m1, Nat.add_sub_cancel, Nat.reducePow, Nat.zero_add, Nat.add_zero, Nat.reduceAdd, Nat.reduceMul, Nat.reduceSub, xf_same, xq_ff, xq_fo, xf_1, xf_2, xs_1, xs_2, xs_same, xq_so, xj_1, xj_2, xj_same, xq_jo, xq_sa1, xq_same, xq_other, upd_s, oI_n, oI_s, xv_0, xv_1, xv_2, xv_3, xm_p1, xm_p2, xq_fp, xq_fn, List.filter_nil, Nat.reduceBEq, Bool.not_true, Bool.not_false, Bool.and_true, Bool.and_false, Bool.false_and, Bool.true_and, if_true, if_false, Bool.false_eq_true, reduceIte, xc_i, xc_j, xc_r, xc_n, List.nil_append, List.cons_append, Option.toList_some, Option.toList_none, nI_ltJ, nI_leJ, nI_eqJ, nI_ltz, nI_gez, nI_gtz, nI_lez, nI_eqz, m1_ltz, m1_gez, true_imp_iff, false_imp_iff, true_and, and_true, ne_eq, not_false_eq_true, not_true_eq_false, Nat.reduceEqDiff, Nat.reduceLT, Nat.reduceLeDiff, xf_102_12 F2, xf_102_13 F2, xf_102_44 F2, q1, q2]
          with_reducible refine xm_go_blk b_X12_findTypes_137 k_X12_findTypes_137 ?_
          refine by_aload_n rfl ?_
          refine by_getf cn_224 fl_12_34 (by first | exact rfl | assumption) (by decide) ?_
          refine by_iload_n rfl ?_
          refine by_iload rfl ?_
          simp (disch := first | exact Nat.ne_of_beq_eq_false rfl | exact rfl | omega) only [nI_add, xa_sub, xa_mul, pk_div, nm_mod, xa_shr, xa_and7, xa_and1, xa_and255, xa_by_and, nI_m1, Nat.add_sub_cancel, Nat.reducePow, Nat.zero_add, Nat.add_zero, Nat.reduceAdd, Nat.reduceMul, Nat.reduceSub, xf_same, xq_ff, xq_fo, xf_1, xf_2, xs_1, xs_2, xs_same, xq_so, xj_1, xj_2, xj_same, xq_jo, xq_sa1, xq_same, xq_other, upd_s, oI_n, oI_s, xf_102_12 F2, xf_102_13 F2, xf_102_44 F2, q1, q2]
          refine by_iast (by first | exact rfl | assumption | exact ps_1 hpp | exact ps_2 hpp | exact ps_3 hpp | exact ps_4 hpp | exact ps_5 hpp | exact ps_6 hpp | exact ps_7 hpp | exact ps_8 hpp | exact ps_9 hpp | exact ps_10 hpp | exact ps_11 hpp | exact ps_15 hpp | exact ps_16 hpp | exact ps_17 hpp | exact ps_18 hpp | exact ps_19 hpp | exact ps_21 hpp | exact ps_22 hpp | exact ps_23 hpp | exact ps_24 hpp) ⟨by omega, by omega⟩ ?_
          refine by_aload_n rfl ?_
          refine by_getf cn_224 fl_12_37 (by first | exact rfl | assumption) (by decide) ?_
          refine by_iload_n rfl ?_
          refine by_iload rfl ?_
          simp (disch := first | exact Nat.ne_of_beq_eq_false rfl | exact rfl | omega) only [nI_add, xa_sub, xa_mul, pk_div, nm_mod, xa_shr, xa_and7, xa_and1, xa_and255, xa_by_and, nI_m1, Nat.add_sub_cancel, Nat.reducePow, Nat.zero_add, Nat.add_zero, Nat.reduceAdd, Nat.reduceMul, Nat.reduceSub, xf_same, xq_ff, xq_fo, xf_1, xf_2, xs_1, xs_2, xs_same, xq_so, xj_1, xj_2, xj_same, xq_jo, xq_sa1, xq_same, xq_other, upd_s, oI_n, oI_s, xf_102_12 F2, xf_102_13 F2, xf_102_44 F2, q1, q2]
          refine by_iast (by first | exact rfl | assumption | exact ps_1 hpp | exact ps_2 hpp | exact ps_3 hpp | exact ps_4 hpp | exact ps_5 hpp | exact ps_6 hpp | exact ps_7 hpp | exact ps_8 hpp | exact ps_9 hpp | exact ps_10 hpp | exact ps_11 hpp | exact ps_15 hpp | exact ps_16 hpp | exact ps_17 hpp | exact ps_18 hpp | exact ps_19 hpp | exact ps_21 hpp | exact ps_22 hpp | exact ps_23 hpp | exact ps_24 hpp) ⟨by omega, by omega⟩ ?_
          refine by_iload_n rfl ?_
          refine by_if_ne 183 rfl ?_
          simp (disch := first | exact Nat.ne_of_beq_eq_false rfl | exact rfl | omega) only [nI_add, xa_sub, xa_mul, pk_div, nm_mod, xa_shr, xa_and7, xa_and1, xa_and255, xa_by_and, nI_m1, Nat.add_sub_cancel, Nat.reducePow, Nat.zero_add, Nat.add_zero, Nat.reduceAdd, Nat.reduceMul, Nat.reduceSub, xf_same, xq_ff, xq_fo, xf_1, xf_2, xs_1, xs_2, xs_same, xq_so, xj_1, xj_2, xj_same, xq_jo, xq_sa1, xq_same, xq_other, upd_s, oI_n, oI_s, xv_0, xv_1, xv_2, xv_3, xm_p1, xm_p2, xq_fp, xq_fn, List.filter_nil, Nat.reduceBEq, Bool.not_true, Bool.not_false, Bool.and_true, Bool.and_false, Bool.false_and, Bool.true_and, if_true, if_false, Bool.false_eq_true, reduceIte, xc_i, xc_j, xc_r, xc_n, List.nil_append, List.cons_append, Option.toList_some, Option.toList_none, nI_ltJ, nI_leJ, nI_eqJ, nI_ltz, nI_gez, nI_gtz, nI_lez, nI_eqz, m1_ltz, m1_gez, true_imp_iff, false_imp_iff, true_and, and_true, ne_eq, not_false_eq_true, not_true_eq_false, Nat.reduceEqDiff, Nat.reduceLT, Nat.reduceLeDiff, xf_102_12 F2, xf_102_13 F2, xf_102_44 F2, q1, q2]
          with_reducible refine xm_go_blk b_X12_findTypes_157 k_X12_findTypes_157 ?_
          refine by_aload_n rfl ?_
          refine by_getf cn_224 fl_12_100 (by first | exact rfl | assumption) (by decide) ?_
          refine by_iload rfl ?_
          simp (disch := first | exact Nat.ne_of_beq_eq_false rfl | exact rfl | omega) only [nI_add, xa_sub, xa_mul, pk_div, nm_mod, xa_shr, xa_and7, xa_and1, xa_and255, xa_by_and, nI_m1, Nat.add_sub_cancel, Nat.reducePow, Nat.zero_add, Nat.add_zero, Nat.reduceAdd, Nat.reduceMul, Nat.reduceSub, xf_same, xq_ff, xq_fo, xf_1, xf_2, xs_1, xs_2, xs_same, xq_so, xj_1, xj_2, xj_same, xq_jo, xq_sa1, xq_same, xq_other, upd_s, oI_n, oI_s, xf_102_12 F2, xf_102_13 F2, xf_102_44 F2, q1, q2]
          first | refine by_iald (by first | exact rfl | assumption | exact ps_1 hpp | exact ps_2 hpp | exact ps_3 hpp | exact ps_4 hpp | exact ps_5 hpp | exact ps_6 hpp | exact ps_7 hpp | exact ps_8 hpp | exact ps_9 hpp | exact ps_10 hpp | exact ps_11 hpp | exact ps_15 hpp | exact ps_16 hpp | exact ps_17 hpp | exact ps_18 hpp | exact ps_19 hpp | exact ps_21 hpp | exact ps_22 hpp | exact ps_23 hpp | exact ps_24 hpp) ⟨by omega, by omega⟩ ?_ | refine by_tald rfl rfl ⟨by omega, by omega⟩ ?_
          refine by_sipush cs_2048 ?_
          refine by_ic_gt 183 rfl ?_
          simp (disch := first | exact Nat.ne_of_beq_eq_false rfl | exact rfl | omega) only [nI_add, xa_sub, xa_mul, pk_div, nm_mod, xa_shr, xa_and7, xa_and1, xa_and255, xa_by_and, nI_m1, Nat.add_sub_cancel, Nat.reducePow, Nat.zero_add, Nat.add_zero, Nat.reduceAdd, Nat.reduceMul, Nat.reduceSub, xf_same, xq_ff, xq_fo, xf_1, xf_2, xs_1, xs_2, xs_same, xq_so, xj_1, xj_2, xj_same, xq_jo, xq_sa1, xq_same, xq_other, upd_s, oI_n, oI_s, xv_0, xv_1, xv_2, xv_3, xm_p1, xm_p2, xq_fp, xq_fn, List.filter_nil, Nat.reduceBEq, Bool.not_true, Bool.not_false, Bool.and_true, Bool.and_false, Bool.false_and, Bool.true_and, if_true, if_false, Bool.false_eq_true, reduceIte, xc_i, xc_j, xc_r, xc_n, List.nil_append, List.cons_append, Option.toList_some, Option.toList_none, nI_ltJ, nI_leJ, nI_eqJ, nI_ltz, nI_gez, nI_gtz, nI_lez, nI_eqz, m1_ltz, m1_gez, true_imp_iff, false_imp_iff, true_and, and_true, ne_eq, not_false_eq_true, not_true_eq_false, Nat.reduceEqDiff, Nat.reduceLT, Nat.reduceLeDiff, xf_102_12 F2, xf_102_13 F2, xf_102_44 F2, q1, q2]
          refine ⟨fun c157 => ?_, fun c => absurd (by omega) c⟩
          with_reducible refine xm_go_blk b_X12_findTypes_183 k_X12_findTypes_183 ?_
          refine by_iconst ci_1 ?_
          refine by_goto 188 rfl ?_
          with_reducible refine xm_go_blk b_X12_findTypes_188 k_X12_findTypes_188 ?_
          refine by_istore_n (by rw [ml_224]; decide) ?_
          refine by_nil ?_
          simp (disch := first | exact Nat.ne_of_beq_eq_false rfl | exact rfl | omega) only [nI_add, xa_sub, xa_mul, pk_div, nm_mod, xa_shr, xa_and7, xa_and1, xa_and255, xa_by_and, nI_m1, Nat.add_sub_cancel, Nat.reducePow, Nat.zero_add, Nat.add_zero, Nat.reduceAdd, Nat.reduceMul, Nat.reduceSub, xf_same, xq_ff, xq_fo, xf_1, xf_2, xs_1, xs_2, xs_same, xq_so, xj_1, xj_2, xj_same, xq_jo, xq_sa1, xq_same, xq_other, upd_s, oI_n, oI_s, xv_0, xv_1, xv_2, xv_3, xm_p1, xm_p2, xq_fp, xq_fn, List.filter_nil, Nat.reduceBEq, Bool.not_true, Bool.not_false, Bool.and_true, Bool.and_false, Bool.false_and, Bool.true_and, if_true, if_false, Bool.false_eq_true, reduceIte, xc_i, xc_j, xc_r, xc_n, List.nil_append, List.cons_append, Option.toList_some, Option.toList_none, xf_102_12 F2, xf_102_13 F2, xf_102_44 F2, q1, q2]
          exact xm_go_wk (by simp [Value.category]) hg
        · by_cases z2 : 2048 < ty_w (tr2 w)
          · have hg := hgo _ fd2 cn2 tr2 K2 L2 R2 1 hfin hkp hJ2 X ⟨by decide, fun _ => Or.inr (hW.mpr (Or.inr z2)), fun _ => rfl⟩
            with_reducible refine xm_go_blk b_X12_findTypes_127 k_X12_findTypes_127 ?_
            refine by_istore (by rw [ml_224]; decide) ?_
            refine by_iload rfl ?_
            refine by_if_ge 137 rfl ?_
            simp (disch := first | exact Nat.ne_of_beq_eq_false rfl | exact rfl | omega) only [nI_add, xa_sub, xa_mul, pk_div, nm_mod, xa_shr, xa_and7, xa_and1, xa_and255, xa_by_and, nI_m1, Nat.add_sub_cancel, Nat.reducePow, Nat.zero_add, Nat.add_zero, Nat.reduceAdd, Nat.reduceMul, Nat.reduceSub, xf_same, xq_ff, xq_fo, xf_1, xf_2, xs_1, xs_2, xs_same, xq_so, xj_1, xj_2, xj_same, xq_jo, xq_sa1, xq_same, xq_other, upd_s, oI_n, oI_s, xv_0, xv_1, xv_2, xv_3, xm_p1, xm_p2, xq_fp, xq_fn, List.filter_nil, Nat.reduceBEq, Bool.not_true, Bool.not_false, Bool.and_true, Bool.and_false, Bool.false_and, Bool.true_and, if_true, if_false, Bool.false_eq_true, reduceIte, xc_i, xc_j, xc_r, xc_n, List.nil_append, List.cons_append, Option.toList_some, Option.toList_none, nI_ltJ, nI_leJ, nI_eqJ, nI_ltz, nI_gez, nI_gtz, nI_lez, nI_eqz, m1_ltz, m1_gez, true_imp_iff, false_imp_iff, true_and, and_true, ne_eq, not_false_eq_true, not_true_eq_false, Nat.reduceEqDiff, Nat.reduceLT, Nat.reduceLeDiff, xf_102_12 F2, xf_102_13 F2, xf_102_44 F2, q1, q2]
            with_reducible refine xm_go_blk b_X12_findTypes_137 k_X12_findTypes_137 ?_
            refine by_aload_n rfl ?_
            refine by_getf cn_224 fl_12_34 (by first | exact rfl | assumption) (by decide) ?_
            refine by_iload_n rfl ?_
            refine by_iload rfl ?_
            simp (disch := first | exact Nat.ne_of_beq_eq_false rfl | exact rfl | omega) only [nI_add, xa_sub, xa_mul, pk_div, nm_mod, xa_shr, xa_and7, xa_and1, xa_and255, xa_by_and, nI_m1, Nat.add_sub_cancel, Nat.reducePow, Nat.zero_add, Nat.add_zero, Nat.reduceAdd, Nat.reduceMul, Nat.reduceSub, xf_same, xq_ff, xq_fo, xf_1, xf_2, xs_1, xs_2, xs_same, xq_so, xj_1, xj_2, xj_same, xq_jo, xq_sa1, xq_same, xq_other, upd_s, oI_n, oI_s, xf_102_12 F2, xf_102_13 F2, xf_102_44 F2, q1, q2]
            refine by_iast (by first | exact rfl | assumption | exact ps_1 hpp | exact ps_2 hpp | exact ps_3 hpp | exact ps_4 hpp | exact ps_5 hpp | exact ps_6 hpp | exact ps_7 hpp | exact ps_8 hpp | exact ps_9 hpp | exact ps_10 hpp | exact ps_11 hpp | exact ps_15 hpp | exact ps_16 hpp | exact ps_17 hpp | exact ps_18 hpp | exact ps_19 hpp | exact ps_21 hpp | exact ps_22 hpp | exact ps_23 hpp | exact ps_24 hpp) ⟨by omega, by omega⟩ ?_
            refine by_aload_n rfl ?_
            refine by_getf cn_224 fl_12_37 (by first | exact rfl | assumption) (by decide) ?_
            refine by_iload_n rfl ?_
            refine by_iload rfl ?_
            simp (disch := first | exact Nat.ne_of_beq_eq_false rfl | exact rfl | omega) only [nI_add, xa_sub, xa_mul, pk_div, nm_mod, xa_shr, xa_and7, xa_and1, xa_and255, xa_by_and, nI_m1, Nat.add_sub_cancel, Nat.reducePow, Nat.zero_add, Nat.add_zero, Nat.reduceAdd, Nat.reduceMul, Nat.reduceSub, xf_same, xq_ff, xq_fo, xf_1, xf_2, xs_1, xs_2, xs_same, xq_so, xj_1, xj_2, xj_same, xq_jo, xq_sa1, xq_same, xq_other, upd_s, oI_n, oI_s, xf_102_12 F2, xf_102_13 F2, xf_102_44 F2, q1, q2]
            refine by_iast (by first | exact rfl | assumption | exact ps_1 hpp | exact ps_2 hpp | exact ps_3 hpp | exact ps_4 hpp | exact ps_5 hpp | exact ps_6 hpp | exact ps_7 hpp | exact ps_8 hpp | exact ps_9 hpp | exact ps_10 hpp | exact ps_11 hpp | exact ps_15 hpp | exact ps_16 hpp | exact ps_17 hpp | exact ps_18 hpp | exact ps_19 hpp | exact ps_21 hpp | exact ps_22 hpp | exact ps_23 hpp | exact ps_24 hpp) ⟨by omega, by omega⟩ ?_
            refine by_iload_n rfl ?_
            refine by_if_ne 183 rfl ?_
            simp (disch := first | exact Nat.ne_of_beq_eq_false rfl | exact rfl | omega) only [nI_add, xa_sub, xa_mul, pk_div, nm_mod, xa_shr, xa_and7, xa_and1, xa_and255, xa_by_and, nI_m1, Nat.add_sub_cancel, Nat.reducePow, Nat.zero_add, Nat.add_zero, Nat.reduceAdd, Nat.reduceMul, Nat.reduceSub, xf_same, xq_ff, xq_fo, xf_1, xf_2, xs_1, xs_2, xs_same, xq_so, xj_1, xj_2, xj_same, xq_jo, xq_sa1, xq_same, xq_other, upd_s, oI_n, oI_s, xv_0, xv_1, xv_2, xv_3, xm_p1, xm_p2, xq_fp, xq_fn, List.filter_nil, Nat.reduceBEq, Bool.not_true, Bool.not_false, Bool.and_true, Bool.and_false, Bool.false_and, Bool.true_and, if_true, if_false, Bool.false_eq_true, reduceIte, xc_i, xc_j, xc_r, xc_n, List.nil_append, List.cons_append, Option.toList_some, Option.toList_none, nI_ltJ, nI_leJ, nI_eqJ, nI_ltz, nI_gez, nI_gtz, nI_lez, nI_eqz, m1_ltz, m1_gez, true_imp_iff, false_imp_iff, true_and, and_true, ne_eq, not_false_eq_true, not_true_eq_false, Nat.reduceEqDiff, Nat.reduceLT, Nat.reduceLeDiff, xf_102_12 F2, xf_102_13 F2, xf_102_44 F2, q1, q2]
            with_reducible refine xm_go_blk b_X12_findTypes_157 k_X12_findTypes_157 ?_
            refine by_aload_n rfl ?_
            refine by_getf cn_224 fl_12_100 (by first | exact rfl | assumption) (by decide) ?_
            refine by_iload rfl ?_
            simp (disch := first | exact Nat.ne_of_beq_eq_false rfl | exact rfl | omega) only [nI_add, xa_sub, xa_mul, pk_div, nm_mod, xa_shr, xa_and7, xa_and1, xa_and255, xa_by_and, nI_m1, Nat.add_sub_cancel, Nat.reducePow, Nat.zero_add, Nat.add_zero, Nat.reduceAdd, Nat.reduceMul, Nat.reduceSub, xf_same, xq_ff, xq_fo, xf_1, xf_2, xs_1, xs_2, xs_same, xq_so, xj_1, xj_2, xj_same, xq_jo, xq_sa1, xq_same, xq_other, upd_s, oI_n, oI_s, xf_102_12 F2, xf_102_13 F2, xf_102_44 F2, q1, q2]
            first | refine by_iald (by first | exact rfl | assumption | exact ps_1 hpp | exact ps_2 hpp | exact ps_3 hpp | exact ps_4 hpp | exact ps_5 hpp | exact ps_6 hpp | exact ps_7 hpp | exact ps_8 hpp | exact ps_9 hpp | exact ps_10 hpp | exact ps_11 hpp | exact ps_15 hpp | exact ps_16 hpp | exact ps_17 hpp | exact ps_18 hpp | exact ps_19 hpp | exact ps_21 hpp | exact ps_22 hpp | exact ps_23 hpp | exact ps_24 hpp) ⟨by omega, by omega⟩ ?_ | refine by_tald rfl rfl ⟨by omega, by omega⟩ ?_
            refine by_sipush cs_2048 ?_
            refine by_ic_gt 183 rfl ?_
            simp (disch := first | exact Nat.ne_of_beq_eq_false rfl | exact rfl | omega) only [nI_add, xa_sub, xa_mul, pk_div, nm_mod, xa_shr, xa_and7, xa_and1, xa_and255, xa_by_and, nI_m1, Nat.add_sub_cancel, Nat.reducePow, Nat.zero_add, Nat.add_zero, Nat.reduceAdd, Nat.reduceMul, Nat.reduceSub, xf_same, xq_ff, xq_fo, xf_1, xf_2, xs_1, xs_2, xs_same, xq_so, xj_1, xj_2, xj_same, xq_jo, xq_sa1, xq_same, xq_other, upd_s, oI_n, oI_s, xv_0, xv_1, xv_2, xv_3, xm_p1, xm_p2, xq_fp, xq_fn, List.filter_nil, Nat.reduceBEq, Bool.not_true, Bool.not_false, Bool.and_true, Bool.and_false, Bool.false_and, Bool.true_and, if_true, if_false, Bool.false_eq_true, reduceIte, xc_i, xc_j, xc_r, xc_n, List.nil_append, List.cons_append, Option.toList_some, Option.toList_none, nI_ltJ, nI_leJ, nI_eqJ, nI_ltz, nI_gez, nI_gtz, nI_lez, nI_eqz, m1_ltz, m1_gez, true_imp_iff, false_imp_iff, true_and, and_true, ne_eq, not_false_eq_true, not_true_eq_false, Nat.reduceEqDiff, Nat.reduceLT, Nat.reduceLeDiff, xf_102_12 F2, xf_102_13 F2, xf_102_44 F2, q1, q2]
            refine ⟨fun c => absurd c (by omega), fun c157 => ?_⟩
            with_reducible refine xm_go_blk b_X12_findTypes_170 k_X12_findTypes_170 ?_
            refine by_aload_n rfl ?_
            refine by_getf cn_224 fl_12_100 (by first | exact rfl | assumption) (by decide) ?_
            refine by_iload rfl ?_
            simp (disch := first | exact Nat.ne_of_beq_eq_false rfl | exact rfl | omega) only [nI_add, xa_sub, xa_mul, pk_div, nm_mod, xa_shr, xa_and7, xa_and1, xa_and255, xa_by_and, nI_m1, Nat.add_sub_cancel, Nat.reducePow, Nat.zero_add, Nat.add_zero, Nat.reduceAdd, Nat.reduceMul, Nat.reduceSub, xf_same, xq_ff, xq_fo, xf_1, xf_2, xs_1, xs_2, xs_same, xq_so, xj_1, xj_2, xj_same, xq_jo, xq_sa1, xq_same, xq_other, upd_s, oI_n, oI_s, xf_102_12 F2, xf_102_13 F2, xf_102_44 F2, q1, q2]
            first | refine by_iald (by first | exact rfl | assumption | exact ps_1 hpp | exact ps_2 hpp | exact ps_3 hpp | exact ps_4 hpp | exact ps_5 hpp | exact ps_6 hpp | exact ps_7 hpp | exact ps_8 hpp | exact ps_9 hpp | exact ps_10 hpp | exact ps_11 hpp | exact ps_15 hpp | exact ps_16 hpp | exact ps_17 hpp | exact ps_18 hpp | exact ps_19 hpp | exact ps_21 hpp | exact ps_22 hpp | exact ps_23 hpp | exact ps_24 hpp) ⟨by omega, by omega⟩ ?_ | refine by_tald rfl rfl ⟨by omega, by omega⟩ ?_
            refine by_sipush cs_2048 ?_
            refine by_ic_le 187 rfl ?_
            simp (disch := first | exact Nat.ne_of_beq_eq_false rfl | exact rfl | omega) only [nI_add, xa_sub, xa_mul, pk_div, nm_mod, xa_shr, xa_and7, xa_and1, xa_and255, xa_by_and, nI_m1, Nat.add_sub_cancel, Nat.reducePow, Nat.zero_add, Nat.add_zero, Nat.reduceAdd, Nat.reduceMul, Nat.reduceSub, xf_same, xq_ff, xq_fo, xf_1, xf_2, xs_1, xs_2, xs_same, xq_so, xj_1, xj_2, xj_same, xq_jo, xq_sa1, xq_same, xq_other, upd_s, oI_n, oI_s, xv_0, xv_1, xv_2, xv_3, xm_p1, xm_p2, xq_fp, xq_fn, List.filter_nil, Nat.reduceBEq, Bool.not_true, Bool.not_false, Bool.and_true, Bool.and_false, Bool.false_and, Bool.true_and, if_true, if_false, Bool.false_eq_true, reduceIte, xc_i, xc_j, xc_r, xc_n, List.nil_append, List.cons_append, Option.toList_some, Option.toList_none, nI_ltJ, nI_leJ, nI_eqJ, nI_ltz, nI_gez, nI_gtz, nI_lez, nI_eqz, m1_ltz, m1_gez, true_imp_iff, false_imp_iff, true_and, and_true, ne_eq, not_false_eq_true, not_true_eq_false, Nat.reduceEqDiff, Nat.reduceLT, Nat.reduceLeDiff, xf_102_12 F2, xf_102_13 F2, xf_102_44 F2, q1, q2]
            refine ⟨fun c => absurd c (by omega), fun c170 => ?_⟩
            with_reducible refine xm_go_blk b_X12_findTypes_183 k_X12_findTypes_183 ?_
            refine by_iconst ci_1 ?_
            refine by_goto 188 rfl ?_
            with_reducible refine xm_go_blk b_X12_findTypes_188 k_X12_findTypes_188 ?_
            refine by_istore_n (by rw [ml_224]; decide) ?_
            refine by_nil ?_
            simp (disch := first | exact Nat.ne_of_beq_eq_false rfl | exact rfl | omega) only [nI_add, xa_sub, xa_mul, pk_div, nm_mod, xa_shr, xa_and7, xa_and1, xa_and255, xa_by_and, nI_m1, Nat.add_sub_cancel, Nat.reducePow, Nat.zero_add, Nat.add_zero, Nat.reduceAdd, Nat.reduceMul, Nat.reduceSub, xf_same, xq_ff, xq_fo, xf_1, xf_2, xs_1, xs_2, xs_same, xq_so, xj_1, xj_2, xj_same, xq_jo, xq_sa1, xq_same, xq_other, upd_s, oI_n, oI_s, xv_0, xv_1, xv_2, xv_3, xm_p1, xm_p2, xq_fp, xq_fn, List.filter_nil, Nat.reduceBEq, Bool.not_true, Bool.not_false, Bool.and_true, Bool.and_false, Bool.false_and, Bool.true_and, if_true, if_false, Bool.false_eq_true, reduceIte, xc_i, xc_j, xc_r, xc_n, List.nil_append, List.cons_append, Option.toList_some, Option.toList_none, xf_102_12 F2, xf_102_13 F2, xf_102_44 F2, q1, q2]
            exact xm_go_wk (by simp [Value.category]) hg
          · have hg := hgo _ fd2 cn2 tr2 K2 L2 R2 0 hfin hkp hJ2 X ⟨by decide, fun z => absurd z (by decide), fun z => by rcases z with z | z; exact absurd z (by decide); rcases hW.mp z with z | z; exact absurd z z1; exact absurd z z2⟩
            with_reducible refine xm_go_blk b_X12_findTypes_127 k_X12_findTypes_127 ?_
            refine by_istore (by rw [ml_224]; decide) ?_
            refine by_iload rfl ?_
            refine by_if_ge 137 rfl ?_
            simp (disch := first | exact Nat.ne_of_beq_eq_false rfl | exact rfl | omega) only [nI_add, xa_sub, xa_mul, pk_div, nm_mod, xa_shr, xa_and7, xa_and1, xa_and255, xa_by_and, nI_m1, Nat.add_sub_cancel, Nat.reducePow, Nat.zero_add, Nat.add_zero, Nat.reduceAdd, Nat.reduceMul, Nat.reduceSub, xf_same, xq_ff, xq_fo, xf_1, xf_2, xs_1, xs_2, xs_same, xq_so, xj_1, xj_2, xj_same, xq_jo, xq_sa1, xq_same, xq_other, upd_s, oI_n, oI_s, xv_0, xv_1, xv_2, xv_3, xm_p1, xm_p2, xq_fp, xq_fn, List.filter_nil, Nat.reduceBEq, Bool.not_true, Bool.not_false, Bool.and_true, Bool.and_false, Bool.false_and, Bool.true_and, if_true, if_false, Bool.false_eq_true, reduceIte, xc_i, xc_j, xc_r, xc_n, List.nil_append, List.cons_append, Option.toList_some, Option.toList_none, nI_ltJ, nI_leJ, nI_eqJ, nI_ltz, nI_gez, nI_gtz, nI_lez, nI_eqz, m1_ltz, m1_gez, true_imp_iff, false_imp_iff, true_and, and_true, ne_eq, not_false_eq_true, not_true_eq_false, Nat.reduceEqDiff, Nat.reduceLT, Nat.reduceLeDiff, xf_102_12 F2, xf_102_13 F2, xf_102_44 F2, q1, q2]
            with_reducible refine xm_go_blk b_X12_findTypes_137 k_X12_findTypes_137 ?_
            refine by_aload_n rfl ?_
            refine by_getf cn_224 fl_12_34 (by first | exact rfl | assumption) (by decide) ?_
            refine by_iload_n rfl ?_
            refine by_iload rfl ?_
            simp (disch := first | exact Nat.ne_of_beq_eq_false rfl | exact rfl | omega) only [nI_add, xa_sub, xa_mul, pk_div, nm_mod, xa_shr, xa_and7, xa_and1, xa_and255, xa_by_and, nI_m1, Nat.add_sub_cancel, Nat.reducePow, Nat.zero_add, Nat.add_zero, Nat.reduceAdd, Nat.reduceMul, Nat.reduceSub, xf_same, xq_ff, xq_fo, xf_1, xf_2, xs_1, xs_2, xs_same, xq_so, xj_1, xj_2, xj_same, xq_jo, xq_sa1, xq_same, xq_other, upd_s, oI_n, oI_s, xf_102_12 F2, xf_102_13 F2, xf_102_44 F2, q1, q2]
            refine by_iast (by first | exact rfl | assumption | exact ps_1 hpp | exact ps_2 hpp | exact ps_3 hpp | exact ps_4 hpp | exact ps_5 hpp | exact ps_6 hpp | exact ps_7 hpp | exact ps_8 hpp | exact ps_9 hpp | exact ps_10 hpp | exact ps_11 hpp | exact ps_15 hpp | exact ps_16 hpp | exact ps_17 hpp | exact ps_18 hpp | exact ps_19 hpp | exact ps_21 hpp | exact ps_22 hpp | exact ps_23 hpp | exact ps_24 hpp) ⟨by omega, by omega⟩ ?_
            refine by_aload_n rfl ?_
            refine by_getf cn_224 fl_12_37 (by first | exact rfl | assumption) (by decide) ?_
            refine by_iload_n rfl ?_
            refine by_iload rfl ?_
            simp (disch := first | exact Nat.ne_of_beq_eq_false rfl | exact rfl | omega) only [nI_add, xa_sub, xa_mul, pk_div, nm_mod, xa_shr, xa_and7, xa_and1, xa_and255, xa_by_and, nI_m1, Nat.add_sub_cancel, Nat.reducePow, Nat.zero_add, Nat.add_zero, Nat.reduceAdd, Nat.reduceMul, Nat.reduceSub, xf_same, xq_ff, xq_fo, xf_1, xf_2, xs_1, xs_2, xs_same, xq_so, xj_1, xj_2, xj_same, xq_jo, xq_sa1, xq_same, xq_other, upd_s, oI_n, oI_s, xf_102_12 F2, xf_102_13 F2, xf_102_44 F2, q1, q2]
            refine by_iast (by first | exact rfl | assumption | exact ps_1 hpp | exact ps_2 hpp | exact ps_3 hpp | exact ps_4 hpp | exact ps_5 hpp | exact ps_6 hpp | exact ps_7 hpp | exact ps_8 hpp | exact ps_9 hpp | exact ps_10 hpp | exact ps_11 hpp | exact ps_15 hpp | exact ps_16 hpp | exact ps_17 hpp | exact ps_18 hpp | exact ps_19 hpp | exact ps_21 hpp | exact ps_22 hpp | exact ps_23 hpp | exact ps_24 hpp) ⟨by omega, by omega⟩ ?_
            refine by_iload_n rfl ?_
            refine by_if_ne 183 rfl ?_
            simp (disch := first | exact Nat.ne_of_beq_eq_false rfl | exact rfl | omega) only [nI_add, xa_sub, xa_mul, pk_div, nm_mod, xa_shr, xa_and7, xa_and1, xa_and255, xa_by_and, nI_m1, Nat.add_sub_cancel, Nat.reducePow, Nat.zero_add, Nat.add_zero, Nat.reduceAdd, Nat.reduceMul, Nat.reduceSub, xf_same, xq_ff, xq_fo, xf_1, xf_2, xs_1, xs_2, xs_same, xq_so, xj_1, xj_2, xj_same, xq_jo, xq_sa1, xq_same, xq_other, upd_s, oI_n, oI_s, xv_0, xv_1, xv_2, xv_3, xm_p1, xm_p2, xq_fp, xq_fn, List.filter_nil, Nat.reduceBEq, Bool.not_true, Bool.not_false, Bool.and_true, Bool.and_false, Bool.false_and, Bool.true_and, if_true, if_false, Bool.false_eq_true, reduceIte, xc_i, xc_j, xc_r, xc_n, List.nil_append, List.cons_append, Option.toList_some, Option.toList_none, nI_ltJ, nI_leJ, nI_eqJ, nI_ltz, nI_gez, nI_gtz, nI_lez, nI_eqz, m1_ltz, m1_gez, true_imp_iff, false_imp_iff, true_and, and_true, ne_eq, not_false_eq_true, not_true_eq_false, Nat.reduceEqDiff, Nat.reduceLT, Nat.reduceLeDiff, xf_102_12 F2, xf_102_13 F2, xf_102_44 F2, q1, q2]
            with_reducible refine xm_go_blk b_X12_findTypes_157 k_X12_findTypes_157 ?_
            refine by_aload_n rfl ?_
            refine by_getf cn_224 fl_12_100 (by first | exact rfl | assumption) (by decide) ?_
            refine by_iload rfl ?_
            simp (disch := first | exact Nat.ne_of_beq_eq_false rfl | exact rfl | omega) only [nI_add, xa_sub, xa_mul, pk_div, nm_mod, xa_shr, xa_and7, xa_and1, xa_and255, xa_by_and, nI_m1, Nat.add_sub_cancel, Nat.reducePow, Nat.zero_add, Nat.add_zero, Nat.reduceAdd, Nat.reduceMul, Nat.reduceSub, xf_same, xq_ff, xq_fo, xf_1, xf_2, xs_1, xs_2, xs_same, xq_so, xj_1, xj_2, xj_same, xq_jo, xq_sa1, xq_same, xq_other, upd_s, oI_n, oI_s, xf_102_12 F2, xf_102_13 F2, xf_102_44 F2, q1, q2]
            first | refine by_iald (by first | exact rfl | assumption | exact ps_1 hpp | exact ps_2 hpp | exact ps_3 hpp | exact ps_4 hpp | exact ps_5 hpp | exact ps_6 hpp | exact ps_7 hpp | exact ps_8 hpp | exact ps_9 hpp | exact ps_10 hpp | exact ps_11 hpp | exact ps_15 hpp | exact ps_16 hpp | exact ps_17 hpp | exact ps_18 hpp | exact ps_19 hpp | exact ps_21 hpp | exact ps_22 hpp | exact ps_23 hpp | exact ps_24 hpp) ⟨by omega, by omega⟩ ?_ | refine by_tald rfl rfl ⟨by omega, by omega⟩ ?_
            refine by_sipush cs_2048 ?_
            refine by_ic_gt 183 rfl ?_
            simp (disch := first | exact Nat.ne_of_beq_eq_false rfl | exact rfl | omega) only [nI_add, xa_sub, xa_mul, pk_div, nm_mod, xa_shr, xa_and7, xa_and1, xa_and255, xa_by_and, nI_m1, Nat.add_sub_cancel, Nat.reducePow, Nat.zero_add, Nat.add_zero, Nat.reduceAdd, Nat.reduceMul, Nat.reduceSub, xf_same, xq_ff, xq_fo, xf_1, xf_2, xs_1, xs_2, xs_same, xq_so, xj_1, xj_2, xj_same, xq_jo, xq_sa1, xq_same, xq_other, upd_s, oI_n, oI_s, xv_0, xv_1, xv_2, xv_3, xm_p1, xm_p2, xq_fp, xq_fn, List.filter_nil, Nat.reduceBEq, Bool.not_true, Bool.not_false, Bool.and_true, Bool.and_false, Bool.false_and, Bool.true_and, if_true, if_false, Bool.false_eq_true, reduceIte, xc_i, xc_j, xc_r, xc_n, List.nil_append, List.cons_append, Option.toList_some, Option.toList_none, nI_ltJ, nI_leJ, nI_eqJ, nI_ltz, nI_gez, nI_gtz, nI_lez, nI_eqz, m1_ltz, m1_gez, true_imp_iff, false_imp_iff, true_and, and_true, ne_eq, not_false_eq_true, not_true_eq_false, Nat.reduceEqDiff, Nat.reduceLT, Nat.reduceLeDiff, xf_102_12 F2, xf_102_13 F2, xf_102_44 F2, q1, q2]
            refine ⟨fun c => absurd c (by omega), fun c157 => ?_⟩
            with_reducible refine xm_go_blk b_X12_findTypes_170 k_X12_findTypes_170 ?_
            refine by_aload_n rfl ?_
            refine by_getf cn_224 fl_12_100 (by first | exact rfl | assumption) (by decide) ?_
            refine by_iload rfl ?_
            simp (disch := first | exact Nat.ne_of_beq_eq_false rfl | exact rfl | omega) only [nI_add, xa_sub, xa_mul, pk_div, nm_mod, xa_shr, xa_and7, xa_and1, xa_and255, xa_by_and, nI_m1, Nat.add_sub_cancel, Nat.reducePow, Nat.zero_add, Nat.add_zero, Nat.reduceAdd, Nat.reduceMul, Nat.reduceSub, xf_same, xq_ff, xq_fo, xf_1, xf_2, xs_1, xs_2, xs_same, xq_so, xj_1, xj_2, xj_same, xq_jo, xq_sa1, xq_same, xq_other, upd_s, oI_n, oI_s, xf_102_12 F2, xf_102_13 F2, xf_102_44 F2, q1, q2]
            first | refine by_iald (by first | exact rfl | assumption | exact ps_1 hpp | exact ps_2 hpp | exact ps_3 hpp | exact ps_4 hpp | exact ps_5 hpp | exact ps_6 hpp | exact ps_7 hpp | exact ps_8 hpp | exact ps_9 hpp | exact ps_10 hpp | exact ps_11 hpp | exact ps_15 hpp | exact ps_16 hpp | exact ps_17 hpp | exact ps_18 hpp | exact ps_19 hpp | exact ps_21 hpp | exact ps_22 hpp | exact ps_23 hpp | exact ps_24 hpp) ⟨by omega, by omega⟩ ?_ | refine by_tald rfl rfl ⟨by omega, by omega⟩ ?_
            refine by_sipush cs_2048 ?_
            refine by_ic_le 187 rfl ?_
            simp (disch := first | exact Nat.ne_of_beq_eq_false rfl | exact rfl | omega) only [nI_add, xa_sub, xa_mul, pk_div, nm_mod, xa_shr, xa_and7, xa_and1, xa_and255, xa_by_and, nI_m1, Nat.add_sub_cancel, Nat.reducePow, Nat.zero_add, Nat.add_zero, Nat.reduceAdd, Nat.reduceMul, Nat.reduceSub, xf_same, xq_ff, xq_fo, xf_1, xf_2, xs_1, xs_2, xs_same, xq_so, xj_1, xj_2, xj_same, xq_jo, xq_sa1, xq_same, xq_other, upd_s, oI_n, oI_s, xv_0, xv_1, xv_2, xv_3, xm_p1, xm_p2, xq_fp, xq_fn, List.filter_nil, Nat.reduceBEq, Bool.not_true, Bool.not_false, Bool.and_true, Bool.and_false, Bool.false_and, Bool.true_and, if_true, if_false, Bool.false_eq_true, reduceIte, xc_i, xc_j, xc_r, xc_n, List.nil_append, List.cons_append, Option.toList_some, Option.toList_none, nI_ltJ, nI_leJ, nI_eqJ, nI_ltz, nI_gez, nI_gtz, nI_lez, nI_eqz, m1_ltz, m1_gez, true_imp_iff, false_imp_iff, true_and, and_true, ne_eq, not_false_eq_true, not_true_eq_false, Nat.reduceEqDiff, Nat.reduceLT, Nat.reduceLeDiff, xf_102_12 F2, xf_102_13 F2, xf_102_44 F2, q1, q2]
            refine ⟨fun c170 => ?_, fun c => absurd (by omega) c⟩
            with_reducible refine xm_go_blk b_X12_findTypes_187 k_X12_findTypes_187 ?_
            refine by_iconst ci_0 ?_
            refine by_nil ?_
            with_reducible refine xm_go_blk b_X12_findTypes_188 k_X12_findTypes_188 ?_
            refine by_istore_n (by rw [ml_224]; decide) ?_
            refine by_nil ?_
            simp (disch := first | exact Nat.ne_of_beq_eq_false rfl | exact rfl | omega) only [nI_add, xa_sub, xa_mul, pk_div, nm_mod, xa_shr, xa_and7, xa_and1, xa_and255, xa_by_and, nI_m1, Nat.add_sub_cancel, Nat.reducePow, Nat.zero_add, Nat.add_zero, Nat.reduceAdd, Nat.reduceMul, Nat.reduceSub, xf_same, xq_ff, xq_fo, xf_1, xf_2, xs_1, xs_2, xs_same, xq_so, xj_1, xj_2, xj_same, xq_jo, xq_sa1, xq_same, xq_other, upd_s, oI_n, oI_s, xv_0, xv_1, xv_2, xv_3, xm_p1, xm_p2, xq_fp, xq_fn, List.filter_nil, Nat.reduceBEq, Bool.not_true, Bool.not_false, Bool.and_true, Bool.and_false, Bool.false_and, Bool.true_and, if_true, if_false, Bool.false_eq_true, reduceIte, xc_i, xc_j, xc_r, xc_n, List.nil_append, List.cons_append, Option.toList_some, Option.toList_none, xf_102_12 F2, xf_102_13 F2, xf_102_44 F2, q1, q2]
            exact xm_go_wk (by simp [Value.category]) hg
      · have hg := hgo _ fd2 cn2 tr2 K2 L2 R2 1 hfin hkp hJ2 X ⟨by decide, fun _ => Or.inl rfl, fun _ => rfl⟩
        with_reducible refine xm_go_blk b_X12_findTypes_127 k_X12_findTypes_127 ?_
        refine by_istore (by rw [ml_224]; decide) ?_
        refine by_iload rfl ?_
        refine by_if_ge 137 rfl ?_
        simp (disch := first | exact Nat.ne_of_beq_eq_false rfl | exact rfl | omega) only [nI_add, xa_sub, xa_mul, pk_div, nm_mod, xa_shr, xa_and7, xa_and1, xa_and255, xa_by_and, nI_m1, Nat.add_sub_cancel, Nat.reducePow, Nat.zero_add, Nat.add_zero, Nat.reduceAdd, Nat.reduceMul, Nat.reduceSub, xf_same, xq_ff, xq_fo, xf_1, xf_2, xs_1, xs_2, xs_same, xq_so, xj_1, xj_2, xj_same, xq_jo, xq_sa1, xq_same, xq_other, upd_s, oI_n, oI_s, xv_0, xv_1, xv_2, xv_3, xm_p1, xm_p2, xq_fp, xq_fn, List.filter_nil, Nat.reduceBEq, Bool.not_true, Bool.not_false, Bool.and_true, Bool.and_false, Bool.false_and, Bool.true_and, if_true, if_false, Bool.false_eq_true, reduceIte, xc_i, xc_j, xc_r, xc_n, List.nil_append, List.cons_append, Option.toList_some, Option.toList_none, nI_ltJ, nI_leJ, nI_eqJ, nI_ltz, nI_gez, nI_gtz, nI_lez, nI_eqz, m1_ltz, m1_gez, true_imp_iff, false_imp_iff, true_and, and_true, ne_eq, not_false_eq_true, not_true_eq_false, Nat.reduceEqDiff, Nat.reduceLT, Nat.reduceLeDiff, xf_102_12 F2, xf_102_13 F2]
        with_reducible refine xm_go_blk b_X12_findTypes_137 k_X12_findTypes_137 ?_
        refine by_aload_n rfl ?_
        refine by_getf cn_224 fl_12_34 (by first | exact rfl | assumption) (by decide) ?_
        refine by_iload_n rfl ?_
        refine by_iload rfl ?_
        simp (disch := first | exact Nat.ne_of_beq_eq_false rfl | exact rfl | omega) only [nI_add, xa_sub, xa_mul, pk_div, nm_mod, xa_shr, xa_and7, xa_and1, xa_and255, xa_by_and, nI_m1, Nat.add_sub_cancel, Nat.reducePow, Nat.zero_add, Nat.add_zero, Nat.reduceAdd, Nat.reduceMul, Nat.reduceSub, xf_same, xq_ff, xq_fo, xf_1, xf_2, xs_1, xs_2, xs_same, xq_so, xj_1, xj_2, xj_same, xq_jo, xq_sa1, xq_same, xq_other, upd_s, oI_n, oI_s, xf_102_12 F2, xf_102_13 F2]
        refine by_iast (by first | exact rfl | assumption | exact ps_1 hpp | exact ps_2 hpp | exact ps_3 hpp | exact ps_4 hpp | exact ps_5 hpp | exact ps_6 hpp | exact ps_7 hpp | exact ps_8 hpp | exact ps_9 hpp | exact ps_10 hpp | exact ps_11 hpp | exact ps_15 hpp | exact ps_16 hpp | exact ps_17 hpp | exact ps_18 hpp | exact ps_19 hpp | exact ps_21 hpp | exact ps_22 hpp | exact ps_23 hpp | exact ps_24 hpp) ⟨by omega, by omega⟩ ?_
        refine by_aload_n rfl ?_
        refine by_getf cn_224 fl_12_37 (by first | exact rfl | assumption) (by decide) ?_
        refine by_iload_n rfl ?_
        refine by_iload rfl ?_
        simp (disch := first | exact Nat.ne_of_beq_eq_false rfl | exact rfl | omega) only [nI_add, xa_sub, xa_mul, pk_div, nm_mod, xa_shr, xa_and7, xa_and1, xa_and255, xa_by_and, nI_m1, Nat.add_sub_cancel, Nat.reducePow, Nat.zero_add, Nat.add_zero, Nat.reduceAdd, Nat.reduceMul, Nat.reduceSub, xf_same, xq_ff, xq_fo, xf_1, xf_2, xs_1, xs_2, xs_same, xq_so, xj_1, xj_2, xj_same, xq_jo, xq_sa1, xq_same, xq_other, upd_s, oI_n, oI_s, xf_102_12 F2, xf_102_13 F2]
        refine by_iast (by first | exact rfl | assumption | exact ps_1 hpp | exact ps_2 hpp | exact ps_3 hpp | exact ps_4 hpp | exact ps_5 hpp | exact ps_6 hpp | exact ps_7 hpp | exact ps_8 hpp | exact ps_9 hpp | exact ps_10 hpp | exact ps_11 hpp | exact ps_15 hpp | exact ps_16 hpp | exact ps_17 hpp | exact ps_18 hpp | exact ps_19 hpp | exact ps_21 hpp | exact ps_22 hpp | exact ps_23 hpp | exact ps_24 hpp) ⟨by omega, by omega⟩ ?_
        refine by_iload_n rfl ?_
        refine by_if_ne 183 rfl ?_
        simp (disch := first | exact Nat.ne_of_beq_eq_false rfl | exact rfl | omega) only [nI_add, xa_sub, xa_mul, pk_div, nm_mod, xa_shr, xa_and7, xa_and1, xa_and255, xa_by_and, nI_m1, Nat.add_sub_cancel, Nat.reducePow, Nat.zero_add, Nat.add_zero, Nat.reduceAdd, Nat.reduceMul, Nat.reduceSub, xf_same, xq_ff, xq_fo, xf_1, xf_2, xs_1, xs_2, xs_same, xq_so, xj_1, xj_2, xj_same, xq_jo, xq_sa1, xq_same, xq_other, upd_s, oI_n, oI_s, xv_0, xv_1, xv_2, xv_3, xm_p1, xm_p2, xq_fp, xq_fn, List.filter_nil, Nat.reduceBEq, Bool.not_true, Bool.not_false, Bool.and_true, Bool.and_false, Bool.false_and, Bool.true_and, if_true, if_false, Bool.false_eq_true, reduceIte, xc_i, xc_j, xc_r, xc_n, List.nil_append, List.cons_append, Option.toList_some, Option.toList_none, nI_ltJ, nI_leJ, nI_eqJ, nI_ltz, nI_gez, nI_gtz, nI_lez, nI_eqz, m1_ltz, m1_gez, true_imp_iff, false_imp_iff, true_and, and_true, ne_eq, not_false_eq_true, not_true_eq_false, Nat.reduceEqDiff, Nat.reduceLT, Nat.reduceLeDiff, xf_102_12 F2, xf_102_13 F2]
        with_reducible refine xm_go_blk b_X12_findTypes_183 k_X12_findTypes_183 ?_
        refine by_iconst ci_1 ?_
        refine by_goto 188 rfl ?_
        with_reducible refine xm_go_blk b_X12_findTypes_188 k_X12_findTypes_188 ?_
        refine by_istore_n (by rw [ml_224]; decide) ?_
        refine by_nil ?_
        simp (disch := first | exact Nat.ne_of_beq_eq_false rfl | exact rfl | omega) only [nI_add, xa_sub, xa_mul, pk_div, nm_mod, xa_shr, xa_and7, xa_and1, xa_and255, xa_by_and, nI_m1, Nat.add_sub_cancel, Nat.reducePow, Nat.zero_add, Nat.add_zero, Nat.reduceAdd, Nat.reduceMul, Nat.reduceSub, xf_same, xq_ff, xq_fo, xf_1, xf_2, xs_1, xs_2, xs_same, xq_so, xj_1, xj_2, xj_same, xq_jo, xq_sa1, xq_same, xq_other, upd_s, oI_n, oI_s, xv_0, xv_1, xv_2, xv_3, xm_p1, xm_p2, xq_fp, xq_fn, List.filter_nil, Nat.reduceBEq, Bool.not_true, Bool.not_false, Bool.and_true, Bool.and_false, Bool.false_and, Bool.true_and, if_true, if_false, Bool.false_eq_true, reduceIte, xc_i, xc_j, xc_r, xc_n, List.nil_append, List.cons_append, Option.toList_some, Option.toList_none, xf_102_12 F2, xf_102_13 F2]
        exact xm_go_wk (by simp [Value.category]) hg
    · with_reducible refine xm_go_blk b_X12_findTypes_127 k_X12_findTypes_127 ?_
      refine by_istore (by rw [ml_224]; decide) ?_
      refine by_iload rfl ?_
      refine by_if_ge 137 rfl ?_
      simp (disch := first | exact Nat.ne_of_beq_eq_false rfl | exact rfl | omega) only [nI_add, xa_sub, xa_mul, pk_div, nm_mod, xa_shr, xa_and7, xa_and1, xa_and255, xa_by_and, nI_m1, Nat.add_sub_cancel, Nat.reducePow, Nat.zero_add, Nat.add_zero, Nat.reduceAdd, Nat.reduceMul, Nat.reduceSub, xf_same, xq_ff, xq_fo, xf_1, xf_2, xs_1, xs_2, xs_same, xq_so, xj_1, xj_2, xj_same, xq_jo, xq_sa1, xq_same, xq_other, upd_s, oI_n, oI_s, xv_0, xv_1, xv_2, xv_3, xm_p1, xm_p2, xq_fp, xq_fn, List.filter_nil, Nat.reduceBEq, Bool.not_true, Bool.not_false, Bool.and_true, Bool.and_false, Bool.false_and, Bool.true_and, if_true, if_false, Bool.false_eq_true, reduceIte, xc_i, xc_j, xc_r, xc_n, List.nil_append, List.cons_append, Option.toList_some, Option.toList_none, nI_ltJ, nI_leJ, nI_eqJ, nI_ltz, nI_gez, nI_gtz, nI_lez, nI_eqz, m1_ltz, m1_gez, true_imp_iff, false_imp_iff, true_and, and_true, ne_eq, not_false_eq_true, not_true_eq_false, Nat.reduceEqDiff, Nat.reduceLT, Nat.reduceLeDiff, m1_ltz]
      with_reducible refine xm_go_blk b_X12_findTypes_134 k_X12_findTypes_134 ?_
      refine by_bipush cb_8 ?_
      refine by_iret ry_224 (by first | rfl | assumption) ?_
      exact hB h2 (Fr_ft (Fr_tr g1 g2 (fun _ z => z) (fun _ z => z))) (kpT_tr kp1 kp2) hb
  · with_reducible refine xm_go_blk b_X12_findTypes_106 k_X12_findTypes_106 ?_
    refine by_istore (by rw [ml_224]; decide) ?_
    refine by_iload rfl ?_
    refine by_if_ge 117 rfl ?_
    simp (disch := first | exact Nat.ne_of_beq_eq_false rfl | exact rfl | omega) only [nI_add, xa_sub, xa_mul, pk_div, nm_mod, xa_shr, xa_and7, xa_and1, xa_and255, xa_by_and, nI_m1, Nat.add_sub_cancel, Nat.reducePow, Nat.zero_add, Nat.add_zero, Nat.reduceAdd, Nat.reduceMul, Nat.reduceSub, xf_same, xq_ff, xq_fo, xf_1, xf_2, xs_1, xs_2, xs_same, xq_so, xj_1, xj_2, xj_same, xq_jo, xq_sa1, xq_same, xq_other, upd_s, oI_n, oI_s, xv_0, xv_1, xv_2, xv_3, xm_p1, xm_p2, xq_fp, xq_fn, List.filter_nil, Nat.reduceBEq, Bool.not_true, Bool.not_false, Bool.and_true, Bool.and_false, Bool.false_and, Bool.true_and, if_true, if_false, Bool.false_eq_true, reduceIte, xc_i, xc_j, xc_r, xc_n, List.nil_append, List.cons_append, Option.toList_some, Option.toList_none, nI_ltJ, nI_leJ, nI_eqJ, nI_ltz, nI_gez, nI_gtz, nI_lez, nI_eqz, m1_ltz, m1_gez, true_imp_iff, false_imp_iff, true_and, and_true, ne_eq, not_false_eq_true, not_true_eq_false, Nat.reduceEqDiff, Nat.reduceLT, Nat.reduceLeDiff, m1_ltz]
    with_reducible refine xm_go_blk b_X12_findTypes_113 k_X12_findTypes_113 ?_
    refine by_iconst ci_m1 ?_
    refine by_goto 127 rfl ?_
    with_reducible refine xm_go_blk b_X12_findTypes_127 k_X12_findTypes_127 ?_
    refine by_istore (by rw [ml_224]; decide) ?_
    refine by_iload rfl ?_
    refine by_if_ge 137 rfl ?_
    simp (disch := first | exact Nat.ne_of_beq_eq_false rfl | exact rfl | omega) only [nI_add, xa_sub, xa_mul, pk_div, nm_mod, xa_shr, xa_and7, xa_and1, xa_and255, xa_by_and, nI_m1, Nat.add_sub_cancel, Nat.reducePow, Nat.zero_add, Nat.add_zero, Nat.reduceAdd, Nat.reduceMul, Nat.reduceSub, xf_same, xq_ff, xq_fo, xf_1, xf_2, xs_1, xs_2, xs_same, xq_so, xj_1, xj_2, xj_same, xq_jo, xq_sa1, xq_same, xq_other, upd_s, oI_n, oI_s, xv_0, xv_1, xv_2, xv_3, xm_p1, xm_p2, xq_fp, xq_fn, List.filter_nil, Nat.reduceBEq, Bool.not_true, Bool.not_false, Bool.and_true, Bool.and_false, Bool.false_and, Bool.true_and, if_true, if_false, Bool.false_eq_true, reduceIte, xc_i, xc_j, xc_r, xc_n, List.nil_append, List.cons_append, Option.toList_some, Option.toList_none, nI_ltJ, nI_leJ, nI_eqJ, nI_ltz, nI_gez, nI_gtz, nI_lez, nI_eqz, m1_ltz, m1_gez, true_imp_iff, false_imp_iff, true_and, and_true, ne_eq, not_false_eq_true, not_true_eq_false, Nat.reduceEqDiff, Nat.reduceLT, Nat.reduceLeDiff, m1_ltz]
    with_reducible refine xm_go_blk b_X12_findTypes_134 k_X12_findTypes_134 ?_
    refine by_bipush cb_8 ?_
    refine by_iret ry_224 (by first | rfl | assumption) ?_
    exact hB h1 (Fr_ft g1) kp1 hb
end FT
