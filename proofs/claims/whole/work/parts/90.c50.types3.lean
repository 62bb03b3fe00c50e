/-! ===== Types.add: the table grows by one at most ===== -/
def tsl (k l r : Nat) : Nat := msk 11 (((nI ((k + 31 * l + 1009 * r) * 40503)).toUInt32 >>> ((nI 4).toUInt32 &&& Int32.toUInt32 31)).toInt32)
theorem tsl_l (k l r : Nat) : tsl k l r < 2048 := msk_l 11 _
theorem tsl_e {k l r : Nat} : ((nI ((k + 31 * l + 1009 * r) * 40503)).toUInt32 >>> ((nI 4).toUInt32 &&& Int32.toUInt32 31)).toInt32 &&& nI 2047 = nI (tsl k l r) := msk_eq (k := 11) (by decide) _
def updT (tr : Nat → Ty) (n : Nat) (a : Ty) : Nat → Ty := fun j => if j = n then a else tr j
theorem updT_s {tr : Nat → Ty} {n : Nat} {a : Ty} : updT tr n a n = a := if_pos rfl
theorem updT_o {tr : Nat → Ty} {n j : Nat} {a : Ty} (h : j ≠ n) : updT tr n a j = tr j := if_neg h
def ttE (h : xm_H) (pp : Nat) (tr : Nat → Ty) (K L R : Nat → Nat) (i : Nat) : Prop :=
  tsh i (K i) (L i) (R i) ∧ tr i = tsv tr (K i) (L i) (R i) ∧ ty_ok (tr i) ∧ h.1 (pp + 15) i = nI (K i) ∧ h.1 (pp + 16) i = nI (L i) ∧ h.1 (pp + 17) i = nI (R i) ∧ h.1 (pp + 18) i = nI (min 1000000 (ty_w (tr i))) ∧ h.1 (pp + 19) i = nI (min 1000000 (ty_word (tr i))) ∧ (∃ b : Bool, h.1 (pp + 20) i = nI b.toNat ∧ (ty_w (tr i) < 1000000 → b = ty_full (tr i))) ∧ h.1 (pp + 21) i = nI (min 1000000 (ty_tl (tr i)))
def tyT (h : xm_H) (pp cn : Nat) (tr : Nat → Ty) (K L R : Nat → Nat) : Prop :=
  h.2.2 (pp + 14) 0 = .int (nI cn) ∧ (∀ i, i < cn → ttE h pp tr K L R i) ∧ (∀ i j, i < cn → j < cn → tr i = tr j → i = j) ∧ hc_ok (h.1 (pp + 23)) (h.1 (pp + 22)) (fun i => tsl (K i) (L i) (R i)) (· < cn) 2048
theorem ttE_mo {h h' : xm_H} {pp cn i k l r : Nat} {tr : Nat → Ty} {K L R : Nat → Nat} {a : Ty} (hE : ttE h pp tr K L R i) (hi : i < cn) (he : ∀ q, q ∈ dsR pp → h'.1 q i = h.1 q i) : ttE h' pp (updT tr cn a) (updN K cn k) (updN L cn l) (updN R cn r) i := by
  obtain ⟨e1, e2, e3, e4, e5, e6, e7, e8, e9, e10⟩ := hE
  have n0 : i ≠ cn := by omega
  unfold ttE
  rw [updN_o n0, updN_o n0, updN_o n0, updT_o n0, he _ (by simp [dsR]), he _ (by simp [dsR]), he _ (by simp [dsR]), he _ (by simp [dsR]), he _ (by simp [dsR]), he _ (by simp [dsR]), he _ (by simp [dsR])]
  exact ⟨e1, by rw [tsv_mo e1 (fun j hj => updT_o (by omega))]; exact e2, e3, e4, e5, e6, e7, e8, e9, e10⟩
theorem tsv_ok {h : xm_H} {pp cn k l r : Nat} {tr : Nat → Ty} {K L R : Nat → Nat} (hT : ∀ i, i < cn → ttE h pp tr K L R i) (hsh : tsh cn k l r) : ty_ok (tsv tr k l r) := by
  obtain ⟨a1, a2, a3⟩ := hsh
  rcases ts_cs a1 with rfl | rfl | rfl
  · exact rfl
  · exact ⟨(hT _ (a3 (by decide)).1).2.2.1, (hT _ (a3 (by decide)).2).2.2.1⟩
  · exact ⟨(hT _ (a3 (by decide)).1).2.2.1, (hT _ (a3 (by decide)).2).2.2.1⟩
def taR (pp : Nat) : List Nat := [pp + 15, pp + 16, pp + 17, pp + 18, pp + 19, pp + 20, pp + 21, pp + 22, pp + 23]
def taH (h : xm_H) (pp cn s : Nat) : xm_H := xm_si (xm_si (xm_sf h (pp + 14) 0 (.int (nI (cn + 1)))) (pp + 22) cn (h.1 (pp + 23) s)) (pp + 23) s (nI cn)
theorem ta_new {h h' : xm_H} {pp cn k l r w o x : Nat} {b : Bool} {tr : Nat → Ty} {K L R : Nat → Nat} (hT : tyT h pp cn tr K L R) (hsh : tsh cn k l r) (hno : ∀ j, j < cn → tr j ≠ tsv tr k l r) (hd : dsO pp cn (taH h pp cn (tsl k l r)) h') (hv : dsV h' pp cn k l r w o x b) (hw : w = min 1000000 (ty_w (tsv tr k l r))) (ho : o = min 1000000 (ty_word (tsv tr k l r))) (hx : x = min 1000000 (ty_tl (tsv tr k l r))) (hb : ty_w (tsv tr k l r) < 1000000 → b = ty_full (tsv tr k l r)) :
    Fr (taR pp) [(pp + 14, 0)] h h' ∧ tyT h' pp (cn + 1) (updT tr cn (tsv tr k l r)) (updN K cn k) (updN L cn l) (updN R cn r) := by
  obtain ⟨t1, t2, t3, t4⟩ := hT
  obtain ⟨v1, v2, v3, v4, v5, v6, v7⟩ := hv
  have hf0 : Fr (taR pp) [(pp + 14, 0)] h (taH h pp cn (tsl k l r)) := Fr_si (Fr_si (Fr_sf Fr_rf (by simp)) (by simp [taR])) (by simp [taR])
  refine ⟨Fr_tr hf0 hd.1 (by simp [dsR, taR]) (by simp), ?_, fun i hi => ?_, fun i j hi hj e => ?_, ?_⟩
  · rw [hd.1.2.2 _ _ (by simp)]
    unfold taH
    simp only [xs_1, xf_same]
  · by_cases e : i = cn
    · subst e
      unfold ttE
      rw [updN_s, updN_s, updN_s, updT_s]
      exact ⟨hsh, (tsv_mo hsh (fun j hj => updT_o (by omega))).symm, tsv_ok t2 hsh, v1, v2, v3, by rw [v4, hw], by rw [v5, ho], ⟨b, v6, hb⟩, by rw [v7, hx]⟩
    · refine ttE_mo (t2 i (by omega)) (by omega) (fun q hq => ?_)
      rw [hd.2 _ _ e]
      have hq2 : q ≠ pp + 22 ∧ q ≠ pp + 23 := by
        simp only [dsR, List.mem_cons, List.not_mem_nil, or_false] at hq
        omega
      unfold taH
      rw [xq_so hq2.2, xq_so hq2.1]
      simp only [xf_1]
  · by_cases e1 : i = cn
    · by_cases e2 : j = cn
      · rw [e1, e2]
      · rw [e1, updT_s, updT_o e2] at e
        exact absurd e.symm (hno j (by omega))
    · by_cases e2 : j = cn
      · rw [e2, updT_s, updT_o e1] at e
        exact absurd e (hno i (by omega))
      · rw [updT_o e1, updT_o e2] at e
        exact t3 i j (by omega) (by omega) e
  · have e23 : h'.1 (pp + 23) = upd (h.1 (pp + 23)) (tsl k l r) (nI cn) := by
      rw [hd.1.1 _ (by simp [dsR])]
      unfold taH
      rw [xs_same, xq_so (by omega)]
      simp only [xf_1]
    have e22 : h'.1 (pp + 22) = upd (h.1 (pp + 22)) cn (h.1 (pp + 23) (tsl k l r)) := by
      rw [hd.1.1 _ (by simp [dsR])]
      unfold taH
      rw [xq_so (by omega), xs_same]
      simp only [xf_1]
    rw [e23, e22]
    refine hc_ins t4 (by omega) (fun i hi => ?_) ?_ (fun i => by omega)
    · have hi : i < cn := hi
      simp only [updN_o (show i ≠ cn by omega)]
    · simp only [updN_s]
theorem ty_is1_K {tr : Nat → Ty} {k l r : Nat} (hk : k ≤ 2) {a : Ty} (h : a = tsv tr k l r) : ty_is1 a = decide (k = 0) := by
  rcases ts_cs hk with rfl | rfl | rfl <;> rw [h] <;> rfl
section DS
variable {sc : xm_Sc} {d pp cn k l r : Nat} {tr : Nat → Ty} {K L R : Nat → Nat} {h : xm_H} {post : xm_Po}
/-- a new type is described -/
theorem ta_desc (hF : XF h) (hpp : pp = 52 ∨ pp = 77) (hT : tyT h pp cn tr K L R) (hcn : cn < 14032) (hsh : tsh cn k l r) (hno : ∀ j, j < cn → tr j ≠ tsv tr k l r) (hp : ∀ h', Fr (taR pp) [(pp + 14, 0)] h h' → tyT h' pp (cn + 1) (updT tr cn (tsv tr k l r)) (updN K cn k) (updN L cn l) (updN R cn r) → post none h') : xm_T (XE sc) (d + 1) 166 [.ref (pp + 14), .int (nI cn), .int (nI k), .int (nI l), .int (nI r)] (taH h pp cn (tsl k l r)) post := by
  have hF1 : XF (taH h pp cn (tsl k l r)) := Fr_XF hF (Fr_si (Fr_si (Fr_sf (Fr_rf (S := taR pp) (T := [(pp + 14, 0)])) (by simp)) (by simp [taR])) (by simp [taR])) (by rcases hpp with rfl | rfl <;> decide +kernel)
  have hrow : ∀ q i, q ∈ dsR pp → (taH h pp cn (tsl k l r)).1 q i = h.1 q i := by
    intro q i hq
    have hq2 : q ≠ pp + 22 ∧ q ≠ pp + 23 := by
      simp only [dsR, List.mem_cons, List.not_mem_nil, or_false] at hq
      omega
    unfold taH
    rw [xq_so hq2.2, xq_so hq2.1]
    simp only [xf_1]
  have hsh0 := hsh
  obtain ⟨a1, a2, a3⟩ := hsh0
  have hT0 := hT
  obtain ⟨t1, t2, t3, t4⟩ := hT0
  rcases ts_cs a1 with rfl | rfl | rfl
  · obtain ⟨rfl, rfl⟩ := a2 rfl
    refine ds_0 hF1 hpp hcn (fun h' hd hv => ?_)
    obtain ⟨f1, f2⟩ := ta_new hT hsh hno hd hv (by show 0 = min 1000000 0; rfl) (by show 0 = min 1000000 0; rfl) (by show 1 = min 1000000 1; rfl) (fun _ => rfl)
    exact hp h' f1 f2
  · obtain ⟨hl, hr⟩ := a3 (by decide)
    obtain ⟨x1, x2, x3, x4, x5, x6, x7, x8, ⟨bl, x9, x9'⟩, x10⟩ := t2 l hl
    obtain ⟨y1, y2, y3, y4, y5, y6, y7, y8, ⟨br, y9, y9'⟩, y10⟩ := t2 r hr
    refine ds_1 hF1 hpp hcn (Or.inl rfl) (fun h1 hd1 q2 q3 q4 => ?_)
    refine ds_2 hF1 hpp hcn hl hr hd1 q2 q3 q4 (by rw [hrow _ _ (by simp [dsR])]; exact x10) (by rw [hrow _ _ (by simp [dsR])]; exact y10) (Nat.min_le_left ..) (Nat.min_le_left ..) (by rw [hrow _ _ (by simp [dsR])]; exact x9) (by rw [hrow _ _ (by simp [dsR])]; exact y9) (fun h2 hd2 => ?_)
    refine ds_3 hF1 hpp hcn hl hr hd2 (by rw [hrow _ _ (by simp [dsR])]; exact x7) (by rw [hrow _ _ (by simp [dsR])]; exact y7) (Nat.min_le_left ..) (Nat.min_le_left ..) (by rw [hrow _ _ (by simp [dsR])]; exact x4) (by rw [hrow _ _ (by simp [dsR])]; exact y4) x1.1 y1.1 (fun h' hd hv => ?_)
    have hO : (if K l = 0 ∧ K r = 0 then 1 else 0) = min 1000000 (ty_word (tsv tr 1 l r)) := by
      simp only [tsv, ty_word, ty_is1_K x1.1 x2, ty_is1_K y1.1 y2, Bool.and_eq_true, decide_eq_true_eq]
      split <;> rfl
    have hB : ty_w (tsv tr 1 l r) < 1000000 → ((bl && br) && decide (min 1000000 (ty_w (tr l)) = min 1000000 (ty_w (tr r)))) = ty_full (tsv tr 1 l r) := by
      intro hw
      simp only [tsv, ty_w] at hw
      rw [x9' (by omega), y9' (by omega)]
      simp only [tsv, ty_full]
      rw [Nat.min_eq_right (by omega), Nat.min_eq_right (by omega)]
      rfl
    obtain ⟨f1, f2⟩ := ta_new hT hsh hno hd hv (by simp only [tsv, ty_w]; omega) hO (by simp only [tsv, ty_tl]; omega) hB
    exact hp h' f1 f2
  · obtain ⟨hl, hr⟩ := a3 (by decide)
    obtain ⟨x1, x2, x3, x4, x5, x6, x7, x8, ⟨bl, x9, x9'⟩, x10⟩ := t2 l hl
    obtain ⟨y1, y2, y3, y4, y5, y6, y7, y8, ⟨br, y9, y9'⟩, y10⟩ := t2 r hr
    refine ds_1 hF1 hpp hcn (Or.inr rfl) (fun h1 hd1 q2 q3 q4 => ?_)
    refine ds_2 hF1 hpp hcn hl hr hd1 q2 q3 q4 (by rw [hrow _ _ (by simp [dsR])]; exact x10) (by rw [hrow _ _ (by simp [dsR])]; exact y10) (Nat.min_le_left ..) (Nat.min_le_left ..) (by rw [hrow _ _ (by simp [dsR])]; exact x9) (by rw [hrow _ _ (by simp [dsR])]; exact y9) (fun h2 hd2 => ?_)
    refine ds_4 hF1 hpp hcn hl hr hd2 (by rw [hrow _ _ (by simp [dsR])]; exact x7) (by rw [hrow _ _ (by simp [dsR])]; exact y7) (Nat.min_le_left ..) (Nat.min_le_left ..) (by rw [hrow _ _ (by simp [dsR])]; exact x8) (Nat.min_le_left ..) (fun h' hd hv => ?_)
    have hO : (if l = r then min 1000000 (2 * min 1000000 (ty_word (tr l))) else 0) = min 1000000 (ty_word (tsv tr 2 l r)) := by
      simp only [tsv, ty_word]
      by_cases e : l = r
      · subst e
        rw [if_pos rfl, if_pos ((ty_eqb_iff x3 x3).mpr rfl)]
        omega
      · rw [if_neg e, if_neg (fun z => e (t3 _ _ hl hr ((ty_eqb_iff x3 y3).mp z)))]
        rfl
    have hB : ty_w (tsv tr 2 l r) < 1000000 → (bl && br) = ty_full (tsv tr 2 l r) := by
      intro hw
      simp only [tsv, ty_w] at hw
      rw [x9' (by omega), y9' (by omega)]
      rfl
    obtain ⟨f1, f2⟩ := ta_new hT hsh hno hd hv (by simp only [tsv, ty_w]; omega) hO (by simp only [tsv, ty_tl]; omega) hB
    exact hp h' f1 f2
theorem sp_tadd (hF : XF h) (hpp : pp = 52 ∨ pp = 77) (hT : tyT h pp cn tr K L R) (hcn : cn < 14032) (hsh : tsh cn k l r)
    (hp : ∀ h' cn' tr' K' L' R' i, Fr (taR pp) [(pp + 14, 0)] h h' → tyT h' pp cn' tr' K' L' R' → cn ≤ cn' → cn' ≤ cn + 1 → (∀ j, j < cn → tr' j = tr j) → i < cn' → tr' i = tsv tr k l r → post (some (.int (nI i))) h') : xm_T (XE sc) (d + 2) 164 [.ref (pp + 14), .int (nI k), .int (nI l), .int (nI r)] h post := by
  have hT0 := hT
  obtain ⟨t1, t2, t3, t4⟩ := hT0
  have hs := tsl_l k l r
  have hk2 := hsh.1
  obtain ⟨cs, c1, c2, c3⟩ := t4 _ hs
  have hl14 : l < 14032 ∧ r < 14032 := by
    rcases ts_cs hsh.1 with e | e | e
    · have := hsh.2.1 e; omega
    · have := hsh.2.2 (by omega); omega
    · have := hsh.2.2 (by omega); omega
  have key : ∀ (cs' : List Nat) (x : Int32) (i : Nat), hc_lk (h.1 (pp + 22)) x cs' → (∀ j ∈ cs', j < cn) → i + cs'.length ≤ cn → (∀ j ∈ cs, j ∈ cs' ∨ ¬ (K j = k ∧ L j = l ∧ R j = r)) → xm_go (XE sc) (xm_T (XE sc) (d + 1)) 164 post 35 [(6, .int (nI i)), (5, .int x), (4, .int (nI (tsl k l r))), (0, .ref (pp + 14)), (1, .int (nI k)), (2, .int (nI l)), (3, .int (nI r))] [] h := by
    intro cs'
    induction cs' with
    | nil =>
      intro x i hx _ hi hno
      have hx : x = -1 := hx
      subst hx
      have hno' : ∀ j, j < cn → tr j ≠ tsv tr k l r := by
        intro j hj e
        obtain ⟨x1, x2, x3, _⟩ := t2 j hj
        obtain ⟨q1, q2, q3⟩ := tsv_inj (b := 0) (B := cn) ⟨x1.1, x1.2.1, fun z => ⟨by have := (x1.2.2 z).1; omega, by have := (x1.2.2 z).2; omega⟩⟩ hsh (fun _ => ⟨Nat.zero_le _, Nat.zero_le _⟩) (fun _ => ⟨Nat.zero_le _, Nat.zero_le _⟩) (fun i j _ a _ b => t3 i j a b) (x2.symm.trans e)
        rcases hno j ((c3 j).mpr ⟨hj, by simp only [q1, q2, q3]⟩) with z | z
        · cases z
        · exact z ⟨q1, q2, q3⟩
      with_reducible refine xm_go_blk b_X10_add_35 k_X10_add_35 ?_
      refine by_iload rfl ?_
      refine by_sipush cs_14032 ?_
      refine by_ic_ge 99 rfl ?_
      simp (disch := first | exact Nat.ne_of_beq_eq_false rfl | exact rfl | omega) only [nI_add, xa_sub, xa_mul, pk_div, nm_mod, xa_shr, xa_and7, xa_and1, xa_and255, xa_by_and, nI_m1, Nat.add_sub_cancel, Nat.reducePow, Nat.zero_add, Nat.add_zero, Nat.reduceAdd, Nat.reduceMul, Nat.reduceSub, xf_same, xq_ff, xq_fo, xf_1, xf_2, xs_1, xs_2, xs_same, xq_so, xj_1, xj_2, xj_same, xq_jo, xq_sa1, xq_same, xq_other, upd_s, oI_n, oI_s, xv_0, xv_1, xv_2, xv_3, xm_p1, xm_p2, xq_fp, xq_fn, List.filter_nil, Nat.reduceBEq, Bool.not_true, Bool.not_false, Bool.and_true, Bool.and_false, Bool.false_and, Bool.true_and, if_true, if_false, Bool.false_eq_true, reduceIte, xc_i, xc_j, xc_r, xc_n, List.nil_append, List.cons_append, Option.toList_some, Option.toList_none, nI_ltJ, nI_leJ, nI_eqJ, nI_ltz, nI_gez, nI_gtz, nI_lez, nI_eqz, m1_ltz, m1_gez, true_imp_iff, false_imp_iff, true_and, and_true, ne_eq, not_false_eq_true, not_true_eq_false, Nat.reduceEqDiff, Nat.reduceLT, Nat.reduceLeDiff, t1, pt_8 hF hpp, pt_9 hF hpp]
      refine ⟨fun c => absurd c (by omega), fun c35 => ?_⟩
      with_reducible refine xm_go_blk b_X10_add_43 k_X10_add_43 ?_
      refine by_iload rfl ?_
      refine by_if_lt 99 rfl ?_
      simp (disch := first | exact Nat.ne_of_beq_eq_false rfl | exact rfl | omega) only [nI_add, xa_sub, xa_mul, pk_div, nm_mod, xa_shr, xa_and7, xa_and1, xa_and255, xa_by_and, nI_m1, Nat.add_sub_cancel, Nat.reducePow, Nat.zero_add, Nat.add_zero, Nat.reduceAdd, Nat.reduceMul, Nat.reduceSub, xf_same, xq_ff, xq_fo, xf_1, xf_2, xs_1, xs_2, xs_same, xq_so, xj_1, xj_2, xj_same, xq_jo, xq_sa1, xq_same, xq_other, upd_s, oI_n, oI_s, xv_0, xv_1, xv_2, xv_3, xm_p1, xm_p2, xq_fp, xq_fn, List.filter_nil, Nat.reduceBEq, Bool.not_true, Bool.not_false, Bool.and_true, Bool.and_false, Bool.false_and, Bool.true_and, if_true, if_false, Bool.false_eq_true, reduceIte, xc_i, xc_j, xc_r, xc_n, List.nil_append, List.cons_append, Option.toList_some, Option.toList_none, nI_ltJ, nI_leJ, nI_eqJ, nI_ltz, nI_gez, nI_gtz, nI_lez, nI_eqz, m1_ltz, m1_gez, true_imp_iff, false_imp_iff, true_and, and_true, ne_eq, not_false_eq_true, not_true_eq_false, Nat.reduceEqDiff, Nat.reduceLT, Nat.reduceLeDiff, t1, pt_8 hF hpp, pt_9 hF hpp]
      with_reducible refine xm_go_blk b_X10_add_99 k_X10_add_99 ?_
      refine by_aload_n rfl ?_
      refine by_getf cn_164 fl_10_43 (by first | exact rfl | assumption | exact ps_14 hpp) (by decide) ?_
      refine by_sipush cs_14032 ?_
      simp (disch := first | exact Nat.ne_of_beq_eq_false rfl | exact rfl | omega) only [nI_add, xa_sub, xa_mul, pk_div, nm_mod, xa_shr, xa_and7, xa_and1, xa_and255, xa_by_and, nI_m1, Nat.add_sub_cancel, Nat.reducePow, Nat.zero_add, Nat.add_zero, Nat.reduceAdd, Nat.reduceMul, Nat.reduceSub, xf_same, xq_ff, xq_fo, xf_1, xf_2, xs_1, xs_2, xs_same, xq_so, xj_1, xj_2, xj_same, xq_jo, xq_sa1, xq_same, xq_other, upd_s, oI_n, oI_s, t1, pt_8 hF hpp, pt_9 hF hpp]
      refine by_ic_lt 111 rfl ?_
      simp (disch := first | exact Nat.ne_of_beq_eq_false rfl | exact rfl | omega) only [nI_add, xa_sub, xa_mul, pk_div, nm_mod, xa_shr, xa_and7, xa_and1, xa_and255, xa_by_and, nI_m1, Nat.add_sub_cancel, Nat.reducePow, Nat.zero_add, Nat.add_zero, Nat.reduceAdd, Nat.reduceMul, Nat.reduceSub, xf_same, xq_ff, xq_fo, xf_1, xf_2, xs_1, xs_2, xs_same, xq_so, xj_1, xj_2, xj_same, xq_jo, xq_sa1, xq_same, xq_other, upd_s, oI_n, oI_s, xv_0, xv_1, xv_2, xv_3, xm_p1, xm_p2, xq_fp, xq_fn, List.filter_nil, Nat.reduceBEq, Bool.not_true, Bool.not_false, Bool.and_true, Bool.and_false, Bool.false_and, Bool.true_and, if_true, if_false, Bool.false_eq_true, reduceIte, xc_i, xc_j, xc_r, xc_n, List.nil_append, List.cons_append, Option.toList_some, Option.toList_none, nI_ltJ, nI_leJ, nI_eqJ, nI_ltz, nI_gez, nI_gtz, nI_lez, nI_eqz, m1_ltz, m1_gez, true_imp_iff, false_imp_iff, true_and, and_true, ne_eq, not_false_eq_true, not_true_eq_false, Nat.reduceEqDiff, Nat.reduceLT, Nat.reduceLeDiff, t1, pt_8 hF hpp, pt_9 hF hpp]
      refine ⟨fun c99 => ?_, fun c => absurd (by omega) c⟩
      with_reducible refine xm_go_blk b_X10_add_111 k_X10_add_111 ?_
      refine by_aload_n rfl ?_
      refine by_getf cn_164 fl_10_43 (by first | exact rfl | assumption | exact ps_14 hpp) (by decide) ?_
      simp (disch := first | exact Nat.ne_of_beq_eq_false rfl | exact rfl | omega) only [nI_add, xa_sub, xa_mul, pk_div, nm_mod, xa_shr, xa_and7, xa_and1, xa_and255, xa_by_and, nI_m1, Nat.add_sub_cancel, Nat.reducePow, Nat.zero_add, Nat.add_zero, Nat.reduceAdd, Nat.reduceMul, Nat.reduceSub, xf_same, xq_ff, xq_fo, xf_1, xf_2, xs_1, xs_2, xs_same, xq_so, xj_1, xj_2, xj_same, xq_jo, xq_sa1, xq_same, xq_other, upd_s, oI_n, oI_s, t1, pt_8 hF hpp, pt_9 hF hpp]
      refine by_istore (by rw [ml_164]; decide) ?_
      refine by_aload_n rfl ?_
      refine by_dup rfl ?_
      refine by_getf cn_164 fl_10_43 (by first | exact rfl | assumption | exact ps_14 hpp) (by decide) ?_
      refine by_iconst ci_1 ?_
      simp (disch := first | exact Nat.ne_of_beq_eq_false rfl | exact rfl | omega) only [nI_add, xa_sub, xa_mul, pk_div, nm_mod, xa_shr, xa_and7, xa_and1, xa_and255, xa_by_and, nI_m1, Nat.add_sub_cancel, Nat.reducePow, Nat.zero_add, Nat.add_zero, Nat.reduceAdd, Nat.reduceMul, Nat.reduceSub, xf_same, xq_ff, xq_fo, xf_1, xf_2, xs_1, xs_2, xs_same, xq_so, xj_1, xj_2, xj_same, xq_jo, xq_sa1, xq_same, xq_other, upd_s, oI_n, oI_s, t1, pt_8 hF hpp, pt_9 hF hpp]
      refine by_iadd ?_
      refine by_putf cn_164 fl_10_43 (by first | exact rfl | assumption | exact ps_14 hpp) (by decide) nf_10_0 ft_10_0 (by first | rfl | assumption) (by first | rfl | assumption) ?_
      refine by_aload_n rfl ?_
      refine by_getf cn_164 fl_10_34 (by first | exact rfl | assumption | exact ps_14 hpp) (by decide) ?_
      refine by_iload rfl ?_
      refine by_aload_n rfl ?_
      refine by_getf cn_164 fl_10_37 (by first | exact rfl | assumption | exact ps_14 hpp) (by decide) ?_
      refine by_iload rfl ?_
      simp (disch := first | exact Nat.ne_of_beq_eq_false rfl | exact rfl | omega) only [nI_add, xa_sub, xa_mul, pk_div, nm_mod, xa_shr, xa_and7, xa_and1, xa_and255, xa_by_and, nI_m1, Nat.add_sub_cancel, Nat.reducePow, Nat.zero_add, Nat.add_zero, Nat.reduceAdd, Nat.reduceMul, Nat.reduceSub, xf_same, xq_ff, xq_fo, xf_1, xf_2, xs_1, xs_2, xs_same, xq_so, xj_1, xj_2, xj_same, xq_jo, xq_sa1, xq_same, xq_other, upd_s, oI_n, oI_s, t1, pt_8 hF hpp, pt_9 hF hpp]
      first | refine by_iald (by first | exact rfl | assumption | exact ps_1 hpp | exact ps_2 hpp | exact ps_3 hpp | exact ps_4 hpp | exact ps_5 hpp | exact ps_6 hpp | exact ps_7 hpp | exact ps_8 hpp | exact ps_9 hpp | exact ps_10 hpp | exact ps_11 hpp | exact ps_15 hpp | exact ps_16 hpp | exact ps_17 hpp | exact ps_18 hpp | exact ps_19 hpp | exact ps_21 hpp | exact ps_22 hpp | exact ps_23 hpp | exact ps_24 hpp) ⟨by omega, by omega⟩ ?_ | refine by_tald rfl rfl ⟨by omega, by omega⟩ ?_
      refine by_iast (by first | exact rfl | assumption | exact ps_1 hpp | exact ps_2 hpp | exact ps_3 hpp | exact ps_4 hpp | exact ps_5 hpp | exact ps_6 hpp | exact ps_7 hpp | exact ps_8 hpp | exact ps_9 hpp | exact ps_10 hpp | exact ps_11 hpp | exact ps_15 hpp | exact ps_16 hpp | exact ps_17 hpp | exact ps_18 hpp | exact ps_19 hpp | exact ps_21 hpp | exact ps_22 hpp | exact ps_23 hpp | exact ps_24 hpp) ⟨by omega, by omega⟩ ?_
      refine by_aload_n rfl ?_
      refine by_getf cn_164 fl_10_37 (by first | exact rfl | assumption | exact ps_14 hpp) (by decide) ?_
      refine by_iload rfl ?_
      refine by_iload rfl ?_
      simp (disch := first | exact Nat.ne_of_beq_eq_false rfl | exact rfl | omega) only [nI_add, xa_sub, xa_mul, pk_div, nm_mod, xa_shr, xa_and7, xa_and1, xa_and255, xa_by_and, nI_m1, Nat.add_sub_cancel, Nat.reducePow, Nat.zero_add, Nat.add_zero, Nat.reduceAdd, Nat.reduceMul, Nat.reduceSub, xf_same, xq_ff, xq_fo, xf_1, xf_2, xs_1, xs_2, xs_same, xq_so, xj_1, xj_2, xj_same, xq_jo, xq_sa1, xq_same, xq_other, upd_s, oI_n, oI_s, t1, pt_8 hF hpp, pt_9 hF hpp]
      refine by_iast (by first | exact rfl | assumption | exact ps_1 hpp | exact ps_2 hpp | exact ps_3 hpp | exact ps_4 hpp | exact ps_5 hpp | exact ps_6 hpp | exact ps_7 hpp | exact ps_8 hpp | exact ps_9 hpp | exact ps_10 hpp | exact ps_11 hpp | exact ps_15 hpp | exact ps_16 hpp | exact ps_17 hpp | exact ps_18 hpp | exact ps_19 hpp | exact ps_21 hpp | exact ps_22 hpp | exact ps_23 hpp | exact ps_24 hpp) ⟨by omega, by omega⟩ ?_
      refine by_aload_n rfl ?_
      refine by_iload rfl ?_
      refine by_iload_n rfl ?_
      refine by_iload_n rfl ?_
      refine by_iload_n rfl ?_
      simp (disch := first | exact Nat.ne_of_beq_eq_false rfl | exact rfl | omega) only [nI_add, xa_sub, xa_mul, pk_div, nm_mod, xa_shr, xa_and7, xa_and1, xa_and255, xa_by_and, nI_m1, Nat.add_sub_cancel, Nat.reducePow, Nat.zero_add, Nat.add_zero, Nat.reduceAdd, Nat.reduceMul, Nat.reduceSub, xf_same, xq_ff, xq_fo, xf_1, xf_2, xs_1, xs_2, xs_same, xq_so, xj_1, xj_2, xj_same, xq_jo, xq_sa1, xq_same, xq_other, upd_s, oI_n, oI_s, xv_0, xv_1, xv_2, xv_3, xm_p1, xm_p2, xq_fp, xq_fn, List.filter_nil, Nat.reduceBEq, Bool.not_true, Bool.not_false, Bool.and_true, Bool.and_false, Bool.false_and, Bool.true_and, if_true, if_false, Bool.false_eq_true, reduceIte, xc_i, xc_j, xc_r, xc_n, List.nil_append, List.cons_append, Option.toList_some, Option.toList_none, t1, pt_8 hF hpp, pt_9 hF hpp]
      refine by_inv4 cn_164 lk_10_48 (by rw [xe_cnt]; decide) is_166 np_166 cn_166 (by first | exact rfl | assumption | exact ps_14 hpp) (Nat.le_of_ble_eq_true rfl) ?_
      refine ta_desc hF hpp hT hcn hsh hno' (fun h' hf hT' => ?_)
      with_reducible refine xm_go_blk b_X10_add_159 k_X10_add_159 ?_
      refine by_iload rfl ?_
      refine by_iret ry_164 (by first | rfl | assumption) ?_
      exact hp h' _ _ _ _ _ cn hf hT' (by omega) (by omega) (fun j hj => updT_o (by omega)) (by omega) updT_s
    | cons j cs' ih =>
      intro x i hx hlt hi hno
      obtain ⟨hx, hx'⟩ := hx
      subst hx
      have hj := hlt j (List.mem_cons_self ..)
      simp only [List.length_cons] at hi
      obtain ⟨x1, x2, x3, x4, x5, x6, _⟩ := t2 j hj
      have hK2 := x1.1
      have hLR : L j < 14032 ∧ R j < 14032 := by
        rcases ts_cs x1.1 with e | e | e
        · have := x1.2.1 e; omega
        · have := x1.2.2 (by omega); omega
        · have := x1.2.2 (by omega); omega
      have nxt : ¬ (K j = k ∧ L j = l ∧ R j = r) → xm_go (XE sc) (xm_T (XE sc) (d + 1)) 164 post 84 [(6, .int (nI i)), (5, .int (nI j)), (4, .int (nI (tsl k l r))), (0, .ref (pp + 14)), (1, .int (nI k)), (2, .int (nI l)), (3, .int (nI r))] [] h := by
        intro hne
        with_reducible refine xm_go_blk b_X10_add_84 k_X10_add_84 ?_
        refine by_aload_n rfl ?_
        refine by_getf cn_164 fl_10_34 (by first | exact rfl | assumption | exact ps_14 hpp) (by decide) ?_
        refine by_iload rfl ?_
        simp (disch := first | exact Nat.ne_of_beq_eq_false rfl | exact rfl | omega) only [nI_add, xa_sub, xa_mul, pk_div, nm_mod, xa_shr, xa_and7, xa_and1, xa_and255, xa_by_and, nI_m1, Nat.add_sub_cancel, Nat.reducePow, Nat.zero_add, Nat.add_zero, Nat.reduceAdd, Nat.reduceMul, Nat.reduceSub, xf_same, xq_ff, xq_fo, xf_1, xf_2, xs_1, xs_2, xs_same, xq_so, xj_1, xj_2, xj_same, xq_jo, xq_sa1, xq_same, xq_other, upd_s, oI_n, oI_s, pt_8 hF hpp]
        first | refine by_iald (by first | exact rfl | assumption | exact ps_1 hpp | exact ps_2 hpp | exact ps_3 hpp | exact ps_4 hpp | exact ps_5 hpp | exact ps_6 hpp | exact ps_7 hpp | exact ps_8 hpp | exact ps_9 hpp | exact ps_10 hpp | exact ps_11 hpp | exact ps_15 hpp | exact ps_16 hpp | exact ps_17 hpp | exact ps_18 hpp | exact ps_19 hpp | exact ps_21 hpp | exact ps_22 hpp | exact ps_23 hpp | exact ps_24 hpp) ⟨by omega, by omega⟩ ?_ | refine by_tald rfl rfl ⟨by omega, by omega⟩ ?_
        refine by_istore (by rw [ml_164]; decide) ?_
        refine by_iinc (by rw [ml_164]; decide) rfl ci_1 ?_
        refine by_goto 35 rfl ?_
        simp (disch := first | exact Nat.ne_of_beq_eq_false rfl | exact rfl | omega) only [nI_add, xa_sub, xa_mul, pk_div, nm_mod, xa_shr, xa_and7, xa_and1, xa_and255, xa_by_and, nI_m1, Nat.add_sub_cancel, Nat.reducePow, Nat.zero_add, Nat.add_zero, Nat.reduceAdd, Nat.reduceMul, Nat.reduceSub, xf_same, xq_ff, xq_fo, xf_1, xf_2, xs_1, xs_2, xs_same, xq_so, xj_1, xj_2, xj_same, xq_jo, xq_sa1, xq_same, xq_other, upd_s, oI_n, oI_s, xv_0, xv_1, xv_2, xv_3, xm_p1, xm_p2, xq_fp, xq_fn, List.filter_nil, Nat.reduceBEq, Bool.not_true, Bool.not_false, Bool.and_true, Bool.and_false, Bool.false_and, Bool.true_and, if_true, if_false, Bool.false_eq_true, reduceIte, xc_i, xc_j, xc_r, xc_n, List.nil_append, List.cons_append, Option.toList_some, Option.toList_none, pt_8 hF hpp]
        refine xm_go_wk (by simp [Value.category]) (ih _ (i + 1) hx' (fun q hq => hlt q (List.mem_cons_of_mem _ hq)) (by omega) (fun q hq => ?_))
        rcases hno q hq with z | z
        · rcases List.mem_cons.mp z with z | z
          · right; rw [z]; exact hne
          · exact Or.inl z
        · exact Or.inr z
      by_cases q1 : K j = k
      · have q1' : (K j = k) = True := eq_true q1
        by_cases q2 : L j = l
        · have q2' : (L j = l) = True := eq_true q2
          by_cases q3 : R j = r
          · have q3' : (R j = r) = True := eq_true q3
            with_reducible refine xm_go_blk b_X10_add_35 k_X10_add_35 ?_
            refine by_iload rfl ?_
            refine by_sipush cs_14032 ?_
            refine by_ic_ge 99 rfl ?_
            simp (disch := first | exact Nat.ne_of_beq_eq_false rfl | exact rfl | omega) only [nI_add, xa_sub, xa_mul, pk_div, nm_mod, xa_shr, xa_and7, xa_and1, xa_and255, xa_by_and, nI_m1, Nat.add_sub_cancel, Nat.reducePow, Nat.zero_add, Nat.add_zero, Nat.reduceAdd, Nat.reduceMul, Nat.reduceSub, xf_same, xq_ff, xq_fo, xf_1, xf_2, xs_1, xs_2, xs_same, xq_so, xj_1, xj_2, xj_same, xq_jo, xq_sa1, xq_same, xq_other, upd_s, oI_n, oI_s, xv_0, xv_1, xv_2, xv_3, xm_p1, xm_p2, xq_fp, xq_fn, List.filter_nil, Nat.reduceBEq, Bool.not_true, Bool.not_false, Bool.and_true, Bool.and_false, Bool.false_and, Bool.true_and, if_true, if_false, Bool.false_eq_true, reduceIte, xc_i, xc_j, xc_r, xc_n, List.nil_append, List.cons_append, Option.toList_some, Option.toList_none, nI_ltJ, nI_leJ, nI_eqJ, nI_ltz, nI_gez, nI_gtz, nI_lez, nI_eqz, m1_ltz, m1_gez, true_imp_iff, false_imp_iff, true_and, and_true, ne_eq, not_false_eq_true, not_true_eq_false, Nat.reduceEqDiff, Nat.reduceLT, Nat.reduceLeDiff, pt_1 hF hpp, pt_2 hF hpp, pt_3 hF hpp, x4, x5, x6, q1', q2', q3']
            refine ⟨fun c => absurd c (by omega), fun c35 => ?_⟩
            with_reducible refine xm_go_blk b_X10_add_43 k_X10_add_43 ?_
            refine by_iload rfl ?_
            refine by_if_lt 99 rfl ?_
            simp (disch := first | exact Nat.ne_of_beq_eq_false rfl | exact rfl | omega) only [nI_add, xa_sub, xa_mul, pk_div, nm_mod, xa_shr, xa_and7, xa_and1, xa_and255, xa_by_and, nI_m1, Nat.add_sub_cancel, Nat.reducePow, Nat.zero_add, Nat.add_zero, Nat.reduceAdd, Nat.reduceMul, Nat.reduceSub, xf_same, xq_ff, xq_fo, xf_1, xf_2, xs_1, xs_2, xs_same, xq_so, xj_1, xj_2, xj_same, xq_jo, xq_sa1, xq_same, xq_other, upd_s, oI_n, oI_s, xv_0, xv_1, xv_2, xv_3, xm_p1, xm_p2, xq_fp, xq_fn, List.filter_nil, Nat.reduceBEq, Bool.not_true, Bool.not_false, Bool.and_true, Bool.and_false, Bool.false_and, Bool.true_and, if_true, if_false, Bool.false_eq_true, reduceIte, xc_i, xc_j, xc_r, xc_n, List.nil_append, List.cons_append, Option.toList_some, Option.toList_none, nI_ltJ, nI_leJ, nI_eqJ, nI_ltz, nI_gez, nI_gtz, nI_lez, nI_eqz, m1_ltz, m1_gez, true_imp_iff, false_imp_iff, true_and, and_true, ne_eq, not_false_eq_true, not_true_eq_false, Nat.reduceEqDiff, Nat.reduceLT, Nat.reduceLeDiff, pt_1 hF hpp, pt_2 hF hpp, pt_3 hF hpp, x4, x5, x6, q1', q2', q3']
            with_reducible refine xm_go_blk b_X10_add_48 k_X10_add_48 ?_
            refine by_aload_n rfl ?_
            refine by_getf cn_164 fl_10_11 (by first | exact rfl | assumption | exact ps_14 hpp) (by decide) ?_
            refine by_iload rfl ?_
            simp (disch := first | exact Nat.ne_of_beq_eq_false rfl | exact rfl | omega) only [nI_add, xa_sub, xa_mul, pk_div, nm_mod, xa_shr, xa_and7, xa_and1, xa_and255, xa_by_and, nI_m1, Nat.add_sub_cancel, Nat.reducePow, Nat.zero_add, Nat.add_zero, Nat.reduceAdd, Nat.reduceMul, Nat.reduceSub, xf_same, xq_ff, xq_fo, xf_1, xf_2, xs_1, xs_2, xs_same, xq_so, xj_1, xj_2, xj_same, xq_jo, xq_sa1, xq_same, xq_other, upd_s, oI_n, oI_s, pt_1 hF hpp, pt_2 hF hpp, pt_3 hF hpp, x4, x5, x6, q1', q2', q3']
            first | refine by_iald (by first | exact rfl | assumption | exact ps_1 hpp | exact ps_2 hpp | exact ps_3 hpp | exact ps_4 hpp | exact ps_5 hpp | exact ps_6 hpp | exact ps_7 hpp | exact ps_8 hpp | exact ps_9 hpp | exact ps_10 hpp | exact ps_11 hpp | exact ps_15 hpp | exact ps_16 hpp | exact ps_17 hpp | exact ps_18 hpp | exact ps_19 hpp | exact ps_21 hpp | exact ps_22 hpp | exact ps_23 hpp | exact ps_24 hpp) ⟨by omega, by omega⟩ ?_ | refine by_tald rfl rfl ⟨by omega, by omega⟩ ?_
            refine by_iload_n rfl ?_
            refine by_ic_ne 84 rfl ?_
            simp (disch := first | exact Nat.ne_of_beq_eq_false rfl | exact rfl | omega) only [nI_add, xa_sub, xa_mul, pk_div, nm_mod, xa_shr, xa_and7, xa_and1, xa_and255, xa_by_and, nI_m1, Nat.add_sub_cancel, Nat.reducePow, Nat.zero_add, Nat.add_zero, Nat.reduceAdd, Nat.reduceMul, Nat.reduceSub, xf_same, xq_ff, xq_fo, xf_1, xf_2, xs_1, xs_2, xs_same, xq_so, xj_1, xj_2, xj_same, xq_jo, xq_sa1, xq_same, xq_other, upd_s, oI_n, oI_s, xv_0, xv_1, xv_2, xv_3, xm_p1, xm_p2, xq_fp, xq_fn, List.filter_nil, Nat.reduceBEq, Bool.not_true, Bool.not_false, Bool.and_true, Bool.and_false, Bool.false_and, Bool.true_and, if_true, if_false, Bool.false_eq_true, reduceIte, xc_i, xc_j, xc_r, xc_n, List.nil_append, List.cons_append, Option.toList_some, Option.toList_none, nI_ltJ, nI_leJ, nI_eqJ, nI_ltz, nI_gez, nI_gtz, nI_lez, nI_eqz, m1_ltz, m1_gez, true_imp_iff, false_imp_iff, true_and, and_true, ne_eq, not_false_eq_true, not_true_eq_false, Nat.reduceEqDiff, Nat.reduceLT, Nat.reduceLeDiff, pt_1 hF hpp, pt_2 hF hpp, pt_3 hF hpp, x4, x5, x6, q1', q2', q3']
            with_reducible refine xm_go_blk b_X10_add_59 k_X10_add_59 ?_
            refine by_aload_n rfl ?_
            refine by_getf cn_164 fl_10_15 (by first | exact rfl | assumption | exact ps_14 hpp) (by decide) ?_
            refine by_iload rfl ?_
            simp (disch := first | exact Nat.ne_of_beq_eq_false rfl | exact rfl | omega) only [nI_add, xa_sub, xa_mul, pk_div, nm_mod, xa_shr, xa_and7, xa_and1, xa_and255, xa_by_and, nI_m1, Nat.add_sub_cancel, Nat.reducePow, Nat.zero_add, Nat.add_zero, Nat.reduceAdd, Nat.reduceMul, Nat.reduceSub, xf_same, xq_ff, xq_fo, xf_1, xf_2, xs_1, xs_2, xs_same, xq_so, xj_1, xj_2, xj_same, xq_jo, xq_sa1, xq_same, xq_other, upd_s, oI_n, oI_s, pt_1 hF hpp, pt_2 hF hpp, pt_3 hF hpp, x4, x5, x6, q1', q2', q3']
            first | refine by_iald (by first | exact rfl | assumption | exact ps_1 hpp | exact ps_2 hpp | exact ps_3 hpp | exact ps_4 hpp | exact ps_5 hpp | exact ps_6 hpp | exact ps_7 hpp | exact ps_8 hpp | exact ps_9 hpp | exact ps_10 hpp | exact ps_11 hpp | exact ps_15 hpp | exact ps_16 hpp | exact ps_17 hpp | exact ps_18 hpp | exact ps_19 hpp | exact ps_21 hpp | exact ps_22 hpp | exact ps_23 hpp | exact ps_24 hpp) ⟨by omega, by omega⟩ ?_ | refine by_tald rfl rfl ⟨by omega, by omega⟩ ?_
            refine by_iload_n rfl ?_
            refine by_ic_ne 84 rfl ?_
            simp (disch := first | exact Nat.ne_of_beq_eq_false rfl | exact rfl | omega) only [nI_add, xa_sub, xa_mul, pk_div, nm_mod, xa_shr, xa_and7, xa_and1, xa_and255, xa_by_and, nI_m1, Nat.add_sub_cancel, Nat.reducePow, Nat.zero_add, Nat.add_zero, Nat.reduceAdd, Nat.reduceMul, Nat.reduceSub, xf_same, xq_ff, xq_fo, xf_1, xf_2, xs_1, xs_2, xs_same, xq_so, xj_1, xj_2, xj_same, xq_jo, xq_sa1, xq_same, xq_other, upd_s, oI_n, oI_s, xv_0, xv_1, xv_2, xv_3, xm_p1, xm_p2, xq_fp, xq_fn, List.filter_nil, Nat.reduceBEq, Bool.not_true, Bool.not_false, Bool.and_true, Bool.and_false, Bool.false_and, Bool.true_and, if_true, if_false, Bool.false_eq_true, reduceIte, xc_i, xc_j, xc_r, xc_n, List.nil_append, List.cons_append, Option.toList_some, Option.toList_none, nI_ltJ, nI_leJ, nI_eqJ, nI_ltz, nI_gez, nI_gtz, nI_lez, nI_eqz, m1_ltz, m1_gez, true_imp_iff, false_imp_iff, true_and, and_true, ne_eq, not_false_eq_true, not_true_eq_false, Nat.reduceEqDiff, Nat.reduceLT, Nat.reduceLeDiff, pt_1 hF hpp, pt_2 hF hpp, pt_3 hF hpp, x4, x5, x6, q1', q2', q3']
            with_reducible refine xm_go_blk b_X10_add_70 k_X10_add_70 ?_
            refine by_aload_n rfl ?_
            refine by_getf cn_164 fl_10_18 (by first | exact rfl | assumption | exact ps_14 hpp) (by decide) ?_
            refine by_iload rfl ?_
            simp (disch := first | exact Nat.ne_of_beq_eq_false rfl | exact rfl | omega) only [nI_add, xa_sub, xa_mul, pk_div, nm_mod, xa_shr, xa_and7, xa_and1, xa_and255, xa_by_and, nI_m1, Nat.add_sub_cancel, Nat.reducePow, Nat.zero_add, Nat.add_zero, Nat.reduceAdd, Nat.reduceMul, Nat.reduceSub, xf_same, xq_ff, xq_fo, xf_1, xf_2, xs_1, xs_2, xs_same, xq_so, xj_1, xj_2, xj_same, xq_jo, xq_sa1, xq_same, xq_other, upd_s, oI_n, oI_s, pt_1 hF hpp, pt_2 hF hpp, pt_3 hF hpp, x4, x5, x6, q1', q2', q3']
            first | refine by_iald (by first | exact rfl | assumption | exact ps_1 hpp | exact ps_2 hpp | exact ps_3 hpp | exact ps_4 hpp | exact ps_5 hpp | exact ps_6 hpp | exact ps_7 hpp | exact ps_8 hpp | exact ps_9 hpp | exact ps_10 hpp | exact ps_11 hpp | exact ps_15 hpp | exact ps_16 hpp | exact ps_17 hpp | exact ps_18 hpp | exact ps_19 hpp | exact ps_21 hpp | exact ps_22 hpp | exact ps_23 hpp | exact ps_24 hpp) ⟨by omega, by omega⟩ ?_ | refine by_tald rfl rfl ⟨by omega, by omega⟩ ?_
            refine by_iload_n rfl ?_
            refine by_ic_ne 84 rfl ?_
            simp (disch := first | exact Nat.ne_of_beq_eq_false rfl | exact rfl | omega) only [nI_add, xa_sub, xa_mul, pk_div, nm_mod, xa_shr, xa_and7, xa_and1, xa_and255, xa_by_and, nI_m1, Nat.add_sub_cancel, Nat.reducePow, Nat.zero_add, Nat.add_zero, Nat.reduceAdd, Nat.reduceMul, Nat.reduceSub, xf_same, xq_ff, xq_fo, xf_1, xf_2, xs_1, xs_2, xs_same, xq_so, xj_1, xj_2, xj_same, xq_jo, xq_sa1, xq_same, xq_other, upd_s, oI_n, oI_s, xv_0, xv_1, xv_2, xv_3, xm_p1, xm_p2, xq_fp, xq_fn, List.filter_nil, Nat.reduceBEq, Bool.not_true, Bool.not_false, Bool.and_true, Bool.and_false, Bool.false_and, Bool.true_and, if_true, if_false, Bool.false_eq_true, reduceIte, xc_i, xc_j, xc_r, xc_n, List.nil_append, List.cons_append, Option.toList_some, Option.toList_none, nI_ltJ, nI_leJ, nI_eqJ, nI_ltz, nI_gez, nI_gtz, nI_lez, nI_eqz, m1_ltz, m1_gez, true_imp_iff, false_imp_iff, true_and, and_true, ne_eq, not_false_eq_true, not_true_eq_false, Nat.reduceEqDiff, Nat.reduceLT, Nat.reduceLeDiff, pt_1 hF hpp, pt_2 hF hpp, pt_3 hF hpp, x4, x5, x6, q1', q2', q3']
            with_reducible refine xm_go_blk b_X10_add_81 k_X10_add_81 ?_
            refine by_iload rfl ?_
            refine by_iret ry_164 (by first | rfl | assumption) ?_
            exact hp h cn tr K L R j Fr_rf hT (Nat.le_refl _) (by omega) (fun _ _ => rfl) hj (by rw [x2, q1, q2, q3])
          · have q3' : (R j = r) = False := eq_false q3
            with_reducible refine xm_go_blk b_X10_add_35 k_X10_add_35 ?_
            refine by_iload rfl ?_
            refine by_sipush cs_14032 ?_
            refine by_ic_ge 99 rfl ?_
            simp (disch := first | exact Nat.ne_of_beq_eq_false rfl | exact rfl | omega) only [nI_add, xa_sub, xa_mul, pk_div, nm_mod, xa_shr, xa_and7, xa_and1, xa_and255, xa_by_and, nI_m1, Nat.add_sub_cancel, Nat.reducePow, Nat.zero_add, Nat.add_zero, Nat.reduceAdd, Nat.reduceMul, Nat.reduceSub, xf_same, xq_ff, xq_fo, xf_1, xf_2, xs_1, xs_2, xs_same, xq_so, xj_1, xj_2, xj_same, xq_jo, xq_sa1, xq_same, xq_other, upd_s, oI_n, oI_s, xv_0, xv_1, xv_2, xv_3, xm_p1, xm_p2, xq_fp, xq_fn, List.filter_nil, Nat.reduceBEq, Bool.not_true, Bool.not_false, Bool.and_true, Bool.and_false, Bool.false_and, Bool.true_and, if_true, if_false, Bool.false_eq_true, reduceIte, xc_i, xc_j, xc_r, xc_n, List.nil_append, List.cons_append, Option.toList_some, Option.toList_none, nI_ltJ, nI_leJ, nI_eqJ, nI_ltz, nI_gez, nI_gtz, nI_lez, nI_eqz, m1_ltz, m1_gez, true_imp_iff, false_imp_iff, true_and, and_true, ne_eq, not_false_eq_true, not_true_eq_false, Nat.reduceEqDiff, Nat.reduceLT, Nat.reduceLeDiff, pt_1 hF hpp, pt_2 hF hpp, pt_3 hF hpp, x4, x5, x6, q1', q2', q3']
            refine ⟨fun c => absurd c (by omega), fun c35 => ?_⟩
            with_reducible refine xm_go_blk b_X10_add_43 k_X10_add_43 ?_
            refine by_iload rfl ?_
            refine by_if_lt 99 rfl ?_
            simp (disch := first | exact Nat.ne_of_beq_eq_false rfl | exact rfl | omega) only [nI_add, xa_sub, xa_mul, pk_div, nm_mod, xa_shr, xa_and7, xa_and1, xa_and255, xa_by_and, nI_m1, Nat.add_sub_cancel, Nat.reducePow, Nat.zero_add, Nat.add_zero, Nat.reduceAdd, Nat.reduceMul, Nat.reduceSub, xf_same, xq_ff, xq_fo, xf_1, xf_2, xs_1, xs_2, xs_same, xq_so, xj_1, xj_2, xj_same, xq_jo, xq_sa1, xq_same, xq_other, upd_s, oI_n, oI_s, xv_0, xv_1, xv_2, xv_3, xm_p1, xm_p2, xq_fp, xq_fn, List.filter_nil, Nat.reduceBEq, Bool.not_true, Bool.not_false, Bool.and_true, Bool.and_false, Bool.false_and, Bool.true_and, if_true, if_false, Bool.false_eq_true, reduceIte, xc_i, xc_j, xc_r, xc_n, List.nil_append, List.cons_append, Option.toList_some, Option.toList_none, nI_ltJ, nI_leJ, nI_eqJ, nI_ltz, nI_gez, nI_gtz, nI_lez, nI_eqz, m1_ltz, m1_gez, true_imp_iff, false_imp_iff, true_and, and_true, ne_eq, not_false_eq_true, not_true_eq_false, Nat.reduceEqDiff, Nat.reduceLT, Nat.reduceLeDiff, pt_1 hF hpp, pt_2 hF hpp, pt_3 hF hpp, x4, x5, x6, q1', q2', q3']
            with_reducible refine xm_go_blk b_X10_add_48 k_X10_add_48 ?_
            refine by_aload_n rfl ?_
            refine by_getf cn_164 fl_10_11 (by first | exact rfl | assumption | exact ps_14 hpp) (by decide) ?_
            refine by_iload rfl ?_
            simp (disch := first | exact Nat.ne_of_beq_eq_false rfl | exact rfl | omega) only [nI_add, xa_sub, xa_mul, pk_div, nm_mod, xa_shr, xa_and7, xa_and1, xa_and255, xa_by_and, nI_m1, Nat.add_sub_cancel, Nat.reducePow, Nat.zero_add, Nat.add_zero, Nat.reduceAdd, Nat.reduceMul, Nat.reduceSub, xf_same, xq_ff, xq_fo, xf_1, xf_2, xs_1, xs_2, xs_same, xq_so, xj_1, xj_2, xj_same, xq_jo, xq_sa1, xq_same, xq_other, upd_s, oI_n, oI_s, pt_1 hF hpp, pt_2 hF hpp, pt_3 hF hpp, x4, x5, x6, q1', q2', q3']
            first | refine by_iald (by first | exact rfl | assumption | exact ps_1 hpp | exact ps_2 hpp | exact ps_3 hpp | exact ps_4 hpp | exact ps_5 hpp | exact ps_6 hpp | exact ps_7 hpp | exact ps_8 hpp | exact ps_9 hpp | exact ps_10 hpp | exact ps_11 hpp | exact ps_15 hpp | exact ps_16 hpp | exact ps_17 hpp | exact ps_18 hpp | exact ps_19 hpp | exact ps_21 hpp | exact ps_22 hpp | exact ps_23 hpp | exact ps_24 hpp) ⟨by omega, by omega⟩ ?_ | refine by_tald rfl rfl ⟨by omega, by omega⟩ ?_
            refine by_iload_n rfl ?_
            refine by_ic_ne 84 rfl ?_
            simp (disch := first | exact Nat.ne_of_beq_eq_false rfl | exact rfl | omega) only [nI_add, xa_sub, xa_mul, pk_div, nm_mod, xa_shr, xa_and7, xa_and1, xa_and255, xa_by_and, nI_m1, Nat.add_sub_cancel, Nat.reducePow, Nat.zero_add, Nat.add_zero, Nat.reduceAdd, Nat.reduceMul, Nat.reduceSub, xf_same, xq_ff, xq_fo, xf_1, xf_2, xs_1, xs_2, xs_same, xq_so, xj_1, xj_2, xj_same, xq_jo, xq_sa1, xq_same, xq_other, upd_s, oI_n, oI_s, xv_0, xv_1, xv_2, xv_3, xm_p1, xm_p2, xq_fp, xq_fn, List.filter_nil, Nat.reduceBEq, Bool.not_true, Bool.not_false, Bool.and_true, Bool.and_false, Bool.false_and, Bool.true_and, if_true, if_false, Bool.false_eq_true, reduceIte, xc_i, xc_j, xc_r, xc_n, List.nil_append, List.cons_append, Option.toList_some, Option.toList_none, nI_ltJ, nI_leJ, nI_eqJ, nI_ltz, nI_gez, nI_gtz, nI_lez, nI_eqz, m1_ltz, m1_gez, true_imp_iff, false_imp_iff, true_and, and_true, ne_eq, not_false_eq_true, not_true_eq_false, Nat.reduceEqDiff, Nat.reduceLT, Nat.reduceLeDiff, pt_1 hF hpp, pt_2 hF hpp, pt_3 hF hpp, x4, x5, x6, q1', q2', q3']
            with_reducible refine xm_go_blk b_X10_add_59 k_X10_add_59 ?_
            refine by_aload_n rfl ?_
            refine by_getf cn_164 fl_10_15 (by first | exact rfl | assumption | exact ps_14 hpp) (by decide) ?_
            refine by_iload rfl ?_
            simp (disch := first | exact Nat.ne_of_beq_eq_false rfl | exact rfl | omega) only [nI_add, xa_sub, xa_mul, pk_div, nm_mod, xa_shr, xa_and7, xa_and1, xa_and255, xa_by_and, nI_m1, Nat.add_sub_cancel, Nat.reducePow, Nat.zero_add, Nat.add_zero, Nat.reduceAdd, Nat.reduceMul, Nat.reduceSub, xf_same, xq_ff, xq_fo, xf_1, xf_2, xs_1, xs_2, xs_same, xq_so, xj_1, xj_2, xj_same, xq_jo, xq_sa1, xq_same, xq_other, upd_s, oI_n, oI_s, pt_1 hF hpp, pt_2 hF hpp, pt_3 hF hpp, x4, x5, x6, q1', q2', q3']
            first | refine by_iald (by first | exact rfl | assumption | exact ps_1 hpp | exact ps_2 hpp | exact ps_3 hpp | exact ps_4 hpp | exact ps_5 hpp | exact ps_6 hpp | exact ps_7 hpp | exact ps_8 hpp | exact ps_9 hpp | exact ps_10 hpp | exact ps_11 hpp | exact ps_15 hpp | exact ps_16 hpp | exact ps_17 hpp | exact ps_18 hpp | exact ps_19 hpp | exact ps_21 hpp | exact ps_22 hpp | exact ps_23 hpp | exact ps_24 hpp) ⟨by omega, by omega⟩ ?_ | refine by_tald rfl rfl ⟨by omega, by omega⟩ ?_
            refine by_iload_n rfl ?_
            refine by_ic_ne 84 rfl ?_
            simp (disch := first | exact Nat.ne_of_beq_eq_false rfl | exact rfl | omega) only [nI_add, xa_sub, xa_mul, pk_div, nm_mod, xa_shr, xa_and7, xa_and1, xa_and255, xa_by_and, nI_m1, Nat.add_sub_cancel, Nat.reducePow, Nat.zero_add, Nat.add_zero, Nat.reduceAdd, Nat.reduceMul, Nat.reduceSub, xf_same, xq_ff, xq_fo, xf_1, xf_2, xs_1, xs_2, xs_same, xq_so, xj_1, xj_2, xj_same, xq_jo, xq_sa1, xq_same, xq_other, upd_s, oI_n, oI_s, xv_0, xv_1, xv_2, xv_3, xm_p1, xm_p2, xq_fp, xq_fn, List.filter_nil, Nat.reduceBEq, Bool.not_true, Bool.not_false, Bool.and_true, Bool.and_false, Bool.false_and, Bool.true_and, if_true, if_false, Bool.false_eq_true, reduceIte, xc_i, xc_j, xc_r, xc_n, List.nil_append, List.cons_append, Option.toList_some, Option.toList_none, nI_ltJ, nI_leJ, nI_eqJ, nI_ltz, nI_gez, nI_gtz, nI_lez, nI_eqz, m1_ltz, m1_gez, true_imp_iff, false_imp_iff, true_and, and_true, ne_eq, not_false_eq_true, not_true_eq_false, Nat.reduceEqDiff, Nat.reduceLT, Nat.reduceLeDiff, pt_1 hF hpp, pt_2 hF hpp, pt_3 hF hpp, x4, x5, x6, q1', q2', q3']
            with_reducible refine xm_go_blk b_X10_add_70 k_X10_add_70 ?_
            refine by_aload_n rfl ?_
            refine by_getf cn_164 fl_10_18 (by first | exact rfl | assumption | exact ps_14 hpp) (by decide) ?_
            refine by_iload rfl ?_
            simp (disch := first | exact Nat.ne_of_beq_eq_false rfl | exact rfl | omega) only [nI_add, xa_sub, xa_mul, pk_div, nm_mod, xa_shr, xa_and7, xa_and1, xa_and255, xa_by_and, nI_m1, Nat.add_sub_cancel, Nat.reducePow, Nat.zero_add, Nat.add_zero, Nat.reduceAdd, Nat.reduceMul, Nat.reduceSub, xf_same, xq_ff, xq_fo, xf_1, xf_2, xs_1, xs_2, xs_same, xq_so, xj_1, xj_2, xj_same, xq_jo, xq_sa1, xq_same, xq_other, upd_s, oI_n, oI_s, pt_1 hF hpp, pt_2 hF hpp, pt_3 hF hpp, x4, x5, x6, q1', q2', q3']
            first | refine by_iald (by first | exact rfl | assumption | exact ps_1 hpp | exact ps_2 hpp | exact ps_3 hpp | exact ps_4 hpp | exact ps_5 hpp | exact ps_6 hpp | exact ps_7 hpp | exact ps_8 hpp | exact ps_9 hpp | exact ps_10 hpp | exact ps_11 hpp | exact ps_15 hpp | exact ps_16 hpp | exact ps_17 hpp | exact ps_18 hpp | exact ps_19 hpp | exact ps_21 hpp | exact ps_22 hpp | exact ps_23 hpp | exact ps_24 hpp) ⟨by omega, by omega⟩ ?_ | refine by_tald rfl rfl ⟨by omega, by omega⟩ ?_
            refine by_iload_n rfl ?_
            refine by_ic_ne 84 rfl ?_
            simp (disch := first | exact Nat.ne_of_beq_eq_false rfl | exact rfl | omega) only [nI_add, xa_sub, xa_mul, pk_div, nm_mod, xa_shr, xa_and7, xa_and1, xa_and255, xa_by_and, nI_m1, Nat.add_sub_cancel, Nat.reducePow, Nat.zero_add, Nat.add_zero, Nat.reduceAdd, Nat.reduceMul, Nat.reduceSub, xf_same, xq_ff, xq_fo, xf_1, xf_2, xs_1, xs_2, xs_same, xq_so, xj_1, xj_2, xj_same, xq_jo, xq_sa1, xq_same, xq_other, upd_s, oI_n, oI_s, xv_0, xv_1, xv_2, xv_3, xm_p1, xm_p2, xq_fp, xq_fn, List.filter_nil, Nat.reduceBEq, Bool.not_true, Bool.not_false, Bool.and_true, Bool.and_false, Bool.false_and, Bool.true_and, if_true, if_false, Bool.false_eq_true, reduceIte, xc_i, xc_j, xc_r, xc_n, List.nil_append, List.cons_append, Option.toList_some, Option.toList_none, nI_ltJ, nI_leJ, nI_eqJ, nI_ltz, nI_gez, nI_gtz, nI_lez, nI_eqz, m1_ltz, m1_gez, true_imp_iff, false_imp_iff, true_and, and_true, ne_eq, not_false_eq_true, not_true_eq_false, Nat.reduceEqDiff, Nat.reduceLT, Nat.reduceLeDiff, pt_1 hF hpp, pt_2 hF hpp, pt_3 hF hpp, x4, x5, x6, q1', q2', q3']
            exact nxt (fun z => q3 z.2.2)
        · have q2' : (L j = l) = False := eq_false q2
          with_reducible refine xm_go_blk b_X10_add_35 k_X10_add_35 ?_
          refine by_iload rfl ?_
          refine by_sipush cs_14032 ?_
          refine by_ic_ge 99 rfl ?_
          simp (disch := first | exact Nat.ne_of_beq_eq_false rfl | exact rfl | omega) only [nI_add, xa_sub, xa_mul, pk_div, nm_mod, xa_shr, xa_and7, xa_and1, xa_and255, xa_by_and, nI_m1, Nat.add_sub_cancel, Nat.reducePow, Nat.zero_add, Nat.add_zero, Nat.reduceAdd, Nat.reduceMul, Nat.reduceSub, xf_same, xq_ff, xq_fo, xf_1, xf_2, xs_1, xs_2, xs_same, xq_so, xj_1, xj_2, xj_same, xq_jo, xq_sa1, xq_same, xq_other, upd_s, oI_n, oI_s, xv_0, xv_1, xv_2, xv_3, xm_p1, xm_p2, xq_fp, xq_fn, List.filter_nil, Nat.reduceBEq, Bool.not_true, Bool.not_false, Bool.and_true, Bool.and_false, Bool.false_and, Bool.true_and, if_true, if_false, Bool.false_eq_true, reduceIte, xc_i, xc_j, xc_r, xc_n, List.nil_append, List.cons_append, Option.toList_some, Option.toList_none, nI_ltJ, nI_leJ, nI_eqJ, nI_ltz, nI_gez, nI_gtz, nI_lez, nI_eqz, m1_ltz, m1_gez, true_imp_iff, false_imp_iff, true_and, and_true, ne_eq, not_false_eq_true, not_true_eq_false, Nat.reduceEqDiff, Nat.reduceLT, Nat.reduceLeDiff, pt_1 hF hpp, pt_2 hF hpp, pt_3 hF hpp, x4, x5, x6, q1', q2']
          refine ⟨fun c => absurd c (by omega), fun c35 => ?_⟩
          with_reducible refine xm_go_blk b_X10_add_43 k_X10_add_43 ?_
          refine by_iload rfl ?_
          refine by_if_lt 99 rfl ?_
          simp (disch := first | exact Nat.ne_of_beq_eq_false rfl | exact rfl | omega) only [nI_add, xa_sub, xa_mul, pk_div, nm_mod, xa_shr, xa_and7, xa_and1, xa_and255, xa_by_and, nI_m1, Nat.add_sub_cancel, Nat.reducePow, Nat.zero_add, Nat.add_zero, Nat.reduceAdd, Nat.reduceMul, Nat.reduceSub, xf_same, xq_ff, xq_fo, xf_1, xf_2, xs_1, xs_2, xs_same, xq_so, xj_1, xj_2, xj_same, xq_jo, xq_sa1, xq_same, xq_other, upd_s, oI_n, oI_s, xv_0, xv_1, xv_2, xv_3, xm_p1, xm_p2, xq_fp, xq_fn, List.filter_nil, Nat.reduceBEq, Bool.not_true, Bool.not_false, Bool.and_true, Bool.and_false, Bool.false_and, Bool.true_and, if_true, if_false, Bool.false_eq_true, reduceIte, xc_i, xc_j, xc_r, xc_n, List.nil_append, List.cons_append, Option.toList_some, Option.toList_none, nI_ltJ, nI_leJ, nI_eqJ, nI_ltz, nI_gez, nI_gtz, nI_lez, nI_eqz, m1_ltz, m1_gez, true_imp_iff, false_imp_iff, true_and, and_true, ne_eq, not_false_eq_true, not_true_eq_false, Nat.reduceEqDiff, Nat.reduceLT, Nat.reduceLeDiff, pt_1 hF hpp, pt_2 hF hpp, pt_3 hF hpp, x4, x5, x6, q1', q2']
          with_reducible refine xm_go_blk b_X10_add_48 k_X10_add_48 ?_
          refine by_aload_n rfl ?_
          refine by_getf cn_164 fl_10_11 (by first | exact rfl | assumption | exact ps_14 hpp) (by decide) ?_
          refine by_iload rfl ?_
          simp (disch := first | exact Nat.ne_of_beq_eq_false rfl | exact rfl | omega) only [nI_add, xa_sub, xa_mul, pk_div, nm_mod, xa_shr, xa_and7, xa_and1, xa_and255, xa_by_and, nI_m1, Nat.add_sub_cancel, Nat.reducePow, Nat.zero_add, Nat.add_zero, Nat.reduceAdd, Nat.reduceMul, Nat.reduceSub, xf_same, xq_ff, xq_fo, xf_1, xf_2, xs_1, xs_2, xs_same, xq_so, xj_1, xj_2, xj_same, xq_jo, xq_sa1, xq_same, xq_other, upd_s, oI_n, oI_s, pt_1 hF hpp, pt_2 hF hpp, pt_3 hF hpp, x4, x5, x6, q1', q2']
          first | refine by_iald (by first | exact rfl | assumption | exact ps_1 hpp | exact ps_2 hpp | exact ps_3 hpp | exact ps_4 hpp | exact ps_5 hpp | exact ps_6 hpp | exact ps_7 hpp | exact ps_8 hpp | exact ps_9 hpp | exact ps_10 hpp | exact ps_11 hpp | exact ps_15 hpp | exact ps_16 hpp | exact ps_17 hpp | exact ps_18 hpp | exact ps_19 hpp | exact ps_21 hpp | exact ps_22 hpp | exact ps_23 hpp | exact ps_24 hpp) ⟨by omega, by omega⟩ ?_ | refine by_tald rfl rfl ⟨by omega, by omega⟩ ?_
          refine by_iload_n rfl ?_
          refine by_ic_ne 84 rfl ?_
          simp (disch := first | exact Nat.ne_of_beq_eq_false rfl | exact rfl | omega) only [nI_add, xa_sub, xa_mul, pk_div, nm_mod, xa_shr, xa_and7, xa_and1, xa_and255, xa_by_and, nI_m1, Nat.add_sub_cancel, Nat.reducePow, Nat.zero_add, Nat.add_zero, Nat.reduceAdd, Nat.reduceMul, Nat.reduceSub, xf_same, xq_ff, xq_fo, xf_1, xf_2, xs_1, xs_2, xs_same, xq_so, xj_1, xj_2, xj_same, xq_jo, xq_sa1, xq_same, xq_other, upd_s, oI_n, oI_s, xv_0, xv_1, xv_2, xv_3, xm_p1, xm_p2, xq_fp, xq_fn, List.filter_nil, Nat.reduceBEq, Bool.not_true, Bool.not_false, Bool.and_true, Bool.and_false, Bool.false_and, Bool.true_and, if_true, if_false, Bool.false_eq_true, reduceIte, xc_i, xc_j, xc_r, xc_n, List.nil_append, List.cons_append, Option.toList_some, Option.toList_none, nI_ltJ, nI_leJ, nI_eqJ, nI_ltz, nI_gez, nI_gtz, nI_lez, nI_eqz, m1_ltz, m1_gez, true_imp_iff, false_imp_iff, true_and, and_true, ne_eq, not_false_eq_true, not_true_eq_false, Nat.reduceEqDiff, Nat.reduceLT, Nat.reduceLeDiff, pt_1 hF hpp, pt_2 hF hpp, pt_3 hF hpp, x4, x5, x6, q1', q2']
          with_reducible refine xm_go_blk b_X10_add_59 k_X10_add_59 ?_
          refine by_aload_n rfl ?_
          refine by_getf cn_164 fl_10_15 (by first | exact rfl | assumption | exact ps_14 hpp) (by decide) ?_
          refine by_iload rfl ?_
          simp (disch := first | exact Nat.ne_of_beq_eq_false rfl | exact rfl | omega) only [nI_add, xa_sub, xa_mul, pk_div, nm_mod, xa_shr, xa_and7, xa_and1, xa_and255, xa_by_and, nI_m1, Nat.add_sub_cancel, Nat.reducePow, Nat.zero_add, Nat.add_zero, Nat.reduceAdd, Nat.reduceMul, Nat.reduceSub, xf_same, xq_ff, xq_fo, xf_1, xf_2, xs_1, xs_2, xs_same, xq_so, xj_1, xj_2, xj_same, xq_jo, xq_sa1, xq_same, xq_other, upd_s, oI_n, oI_s, pt_1 hF hpp, pt_2 hF hpp, pt_3 hF hpp, x4, x5, x6, q1', q2']
          first | refine by_iald (by first | exact rfl | assumption | exact ps_1 hpp | exact ps_2 hpp | exact ps_3 hpp | exact ps_4 hpp | exact ps_5 hpp | exact ps_6 hpp | exact ps_7 hpp | exact ps_8 hpp | exact ps_9 hpp | exact ps_10 hpp | exact ps_11 hpp | exact ps_15 hpp | exact ps_16 hpp | exact ps_17 hpp | exact ps_18 hpp | exact ps_19 hpp | exact ps_21 hpp | exact ps_22 hpp | exact ps_23 hpp | exact ps_24 hpp) ⟨by omega, by omega⟩ ?_ | refine by_tald rfl rfl ⟨by omega, by omega⟩ ?_
          refine by_iload_n rfl ?_
          refine by_ic_ne 84 rfl ?_
          simp (disch := first | exact Nat.ne_of_beq_eq_false rfl | exact rfl | omega) only [nI_add, xa_sub, xa_mul, pk_div, nm_mod, xa_shr, xa_and7, xa_and1, xa_and255, xa_by_and, nI_m1, Nat.add_sub_cancel, Nat.reducePow, Nat.zero_add, Nat.add_zero, Nat.reduceAdd, Nat.reduceMul, Nat.reduceSub, xf_same, xq_ff, xq_fo, xf_1, xf_2, xs_1, xs_2, xs_same, xq_so, xj_1, xj_2, xj_same, xq_jo, xq_sa1, xq_same, xq_other, upd_s, oI_n, oI_s, xv_0, xv_1, xv_2, xv_3, xm_p1, xm_p2, xq_fp, xq_fn, List.filter_nil, Nat.reduceBEq, Bool.not_true, Bool.not_false, Bool.and_true, Bool.and_false, Bool.false_and, Bool.true_and, if_true, if_false, Bool.false_eq_true, reduceIte, xc_i, xc_j, xc_r, xc_n, List.nil_append, List.cons_append, Option.toList_some, Option.toList_none, nI_ltJ, nI_leJ, nI_eqJ, nI_ltz, nI_gez, nI_gtz, nI_lez, nI_eqz, m1_ltz, m1_gez, true_imp_iff, false_imp_iff, true_and, and_true, ne_eq, not_false_eq_true, not_true_eq_false, Nat.reduceEqDiff, Nat.reduceLT, Nat.reduceLeDiff, pt_1 hF hpp, pt_2 hF hpp, pt_3 hF hpp, x4, x5, x6, q1', q2']
          exact nxt (fun z => q2 z.2.1)
      · have q1' : (K j = k) = False := eq_false q1
        with_reducible refine xm_go_blk b_X10_add_35 k_X10_add_35 ?_
        refine by_iload rfl ?_
        refine by_sipush cs_14032 ?_
        refine by_ic_ge 99 rfl ?_
        simp (disch := first | exact Nat.ne_of_beq_eq_false rfl | exact rfl | omega) only [nI_add, xa_sub, xa_mul, pk_div, nm_mod, xa_shr, xa_and7, xa_and1, xa_and255, xa_by_and, nI_m1, Nat.add_sub_cancel, Nat.reducePow, Nat.zero_add, Nat.add_zero, Nat.reduceAdd, Nat.reduceMul, Nat.reduceSub, xf_same, xq_ff, xq_fo, xf_1, xf_2, xs_1, xs_2, xs_same, xq_so, xj_1, xj_2, xj_same, xq_jo, xq_sa1, xq_same, xq_other, upd_s, oI_n, oI_s, xv_0, xv_1, xv_2, xv_3, xm_p1, xm_p2, xq_fp, xq_fn, List.filter_nil, Nat.reduceBEq, Bool.not_true, Bool.not_false, Bool.and_true, Bool.and_false, Bool.false_and, Bool.true_and, if_true, if_false, Bool.false_eq_true, reduceIte, xc_i, xc_j, xc_r, xc_n, List.nil_append, List.cons_append, Option.toList_some, Option.toList_none, nI_ltJ, nI_leJ, nI_eqJ, nI_ltz, nI_gez, nI_gtz, nI_lez, nI_eqz, m1_ltz, m1_gez, true_imp_iff, false_imp_iff, true_and, and_true, ne_eq, not_false_eq_true, not_true_eq_false, Nat.reduceEqDiff, Nat.reduceLT, Nat.reduceLeDiff, pt_1 hF hpp, pt_2 hF hpp, pt_3 hF hpp, x4, x5, x6, q1']
        refine ⟨fun c => absurd c (by omega), fun c35 => ?_⟩
        with_reducible refine xm_go_blk b_X10_add_43 k_X10_add_43 ?_
        refine by_iload rfl ?_
        refine by_if_lt 99 rfl ?_
        simp (disch := first | exact Nat.ne_of_beq_eq_false rfl | exact rfl | omega) only [nI_add, xa_sub, xa_mul, pk_div, nm_mod, xa_shr, xa_and7, xa_and1, xa_and255, xa_by_and, nI_m1, Nat.add_sub_cancel, Nat.reducePow, Nat.zero_add, Nat.add_zero, Nat.reduceAdd, Nat.reduceMul, Nat.reduceSub, xf_same, xq_ff, xq_fo, xf_1, xf_2, xs_1, xs_2, xs_same, xq_so, xj_1, xj_2, xj_same, xq_jo, xq_sa1, xq_same, xq_other, upd_s, oI_n, oI_s, xv_0, xv_1, xv_2, xv_3, xm_p1, xm_p2, xq_fp, xq_fn, List.filter_nil, Nat.reduceBEq, Bool.not_true, Bool.not_false, Bool.and_true, Bool.and_false, Bool.false_and, Bool.true_and, if_true, if_false, Bool.false_eq_true, reduceIte, xc_i, xc_j, xc_r, xc_n, List.nil_append, List.cons_append, Option.toList_some, Option.toList_none, nI_ltJ, nI_leJ, nI_eqJ, nI_ltz, nI_gez, nI_gtz, nI_lez, nI_eqz, m1_ltz, m1_gez, true_imp_iff, false_imp_iff, true_and, and_true, ne_eq, not_false_eq_true, not_true_eq_false, Nat.reduceEqDiff, Nat.reduceLT, Nat.reduceLeDiff, pt_1 hF hpp, pt_2 hF hpp, pt_3 hF hpp, x4, x5, x6, q1']
        with_reducible refine xm_go_blk b_X10_add_48 k_X10_add_48 ?_
        refine by_aload_n rfl ?_
        refine by_getf cn_164 fl_10_11 (by first | exact rfl | assumption | exact ps_14 hpp) (by decide) ?_
        refine by_iload rfl ?_
        simp (disch := first | exact Nat.ne_of_beq_eq_false rfl | exact rfl | omega) only [nI_add, xa_sub, xa_mul, pk_div, nm_mod, xa_shr, xa_and7, xa_and1, xa_and255, xa_by_and, nI_m1, Nat.add_sub_cancel, Nat.reducePow, Nat.zero_add, Nat.add_zero, Nat.reduceAdd, Nat.reduceMul, Nat.reduceSub, xf_same, xq_ff, xq_fo, xf_1, xf_2, xs_1, xs_2, xs_same, xq_so, xj_1, xj_2, xj_same, xq_jo, xq_sa1, xq_same, xq_other, upd_s, oI_n, oI_s, pt_1 hF hpp, pt_2 hF hpp, pt_3 hF hpp, x4, x5, x6, q1']
        first | refine by_iald (by first | exact rfl | assumption | exact ps_1 hpp | exact ps_2 hpp | exact ps_3 hpp | exact ps_4 hpp | exact ps_5 hpp | exact ps_6 hpp | exact ps_7 hpp | exact ps_8 hpp | exact ps_9 hpp | exact ps_10 hpp | exact ps_11 hpp | exact ps_15 hpp | exact ps_16 hpp | exact ps_17 hpp | exact ps_18 hpp | exact ps_19 hpp | exact ps_21 hpp | exact ps_22 hpp | exact ps_23 hpp | exact ps_24 hpp) ⟨by omega, by omega⟩ ?_ | refine by_tald rfl rfl ⟨by omega, by omega⟩ ?_
        refine by_iload_n rfl ?_
        refine by_ic_ne 84 rfl ?_
        simp (disch := first | exact Nat.ne_of_beq_eq_false rfl | exact rfl | omega) only [nI_add, xa_sub, xa_mul, pk_div, nm_mod, xa_shr, xa_and7, xa_and1, xa_and255, xa_by_and, nI_m1, Nat.add_sub_cancel, Nat.reducePow, Nat.zero_add, Nat.add_zero, Nat.reduceAdd, Nat.reduceMul, Nat.reduceSub, xf_same, xq_ff, xq_fo, xf_1, xf_2, xs_1, xs_2, xs_same, xq_so, xj_1, xj_2, xj_same, xq_jo, xq_sa1, xq_same, xq_other, upd_s, oI_n, oI_s, xv_0, xv_1, xv_2, xv_3, xm_p1, xm_p2, xq_fp, xq_fn, List.filter_nil, Nat.reduceBEq, Bool.not_true, Bool.not_false, Bool.and_true, Bool.and_false, Bool.false_and, Bool.true_and, if_true, if_false, Bool.false_eq_true, reduceIte, xc_i, xc_j, xc_r, xc_n, List.nil_append, List.cons_append, Option.toList_some, Option.toList_none, nI_ltJ, nI_leJ, nI_eqJ, nI_ltz, nI_gez, nI_gtz, nI_lez, nI_eqz, m1_ltz, m1_gez, true_imp_iff, false_imp_iff, true_and, and_true, ne_eq, not_false_eq_true, not_true_eq_false, Nat.reduceEqDiff, Nat.reduceLT, Nat.reduceLeDiff, pt_1 hF hpp, pt_2 hF hpp, pt_3 hF hpp, x4, x5, x6, q1']
        exact nxt (fun z => q1 z.1)
  refine xq_in rfl ?_
  simp only [xq_a0, xq_aI, xq_aJ, xq_aR, Nat.reduceAdd]
  with_reducible refine xm_go_blk b_X10_add_0 k_X10_add_0 ?_
  refine by_iload_n rfl ?_
  refine by_bipush cb_31 ?_
  refine by_iload_n rfl ?_
  refine by_imul ?_
  refine by_iadd ?_
  refine by_sipush cs_1009 ?_
  refine by_iload_n rfl ?_
  refine by_imul ?_
  refine by_iadd ?_
  refine by_ldc (x := nI 40503) cn_164 ki_10_47 (by decide) ?_
  refine by_imul ?_
  refine by_iconst ci_4 ?_
  refine by_iushr ?_
  refine by_sipush cs_2047 ?_
  refine by_iand ?_
  refine by_istore (by rw [ml_164]; decide) ?_
  refine by_aload_n rfl ?_
  refine by_getf cn_164 fl_10_37 (by first | exact rfl | assumption | exact ps_14 hpp) (by decide) ?_
  refine by_iload rfl ?_
  simp (disch := first | exact Nat.ne_of_beq_eq_false rfl | exact rfl | omega) only [nI_add, xa_sub, xa_mul, pk_div, nm_mod, xa_shr, xa_and7, xa_and1, xa_and255, xa_by_and, nI_m1, Nat.add_sub_cancel, Nat.reducePow, Nat.zero_add, Nat.add_zero, Nat.reduceAdd, Nat.reduceMul, Nat.reduceSub, xf_same, xq_ff, xq_fo, xf_1, xf_2, xs_1, xs_2, xs_same, xq_so, xj_1, xj_2, xj_same, xq_jo, xq_sa1, xq_same, xq_other, upd_s, oI_n, oI_s, pt_9 hF hpp, tsl_e]
  first | refine by_iald (by first | exact rfl | assumption | exact ps_1 hpp | exact ps_2 hpp | exact ps_3 hpp | exact ps_4 hpp | exact ps_5 hpp | exact ps_6 hpp | exact ps_7 hpp | exact ps_8 hpp | exact ps_9 hpp | exact ps_10 hpp | exact ps_11 hpp | exact ps_15 hpp | exact ps_16 hpp | exact ps_17 hpp | exact ps_18 hpp | exact ps_19 hpp | exact ps_21 hpp | exact ps_22 hpp | exact ps_23 hpp | exact ps_24 hpp) ⟨by omega, by omega⟩ ?_ | refine by_tald rfl rfl ⟨by omega, by omega⟩ ?_
  refine by_istore (by rw [ml_164]; decide) ?_
  refine by_iconst ci_0 ?_
  refine by_istore (by rw [ml_164]; decide) ?_
  refine by_nil ?_
  simp (disch := first | exact Nat.ne_of_beq_eq_false rfl | exact rfl | omega) only [nI_add, xa_sub, xa_mul, pk_div, nm_mod, xa_shr, xa_and7, xa_and1, xa_and255, xa_by_and, nI_m1, Nat.add_sub_cancel, Nat.reducePow, Nat.zero_add, Nat.add_zero, Nat.reduceAdd, Nat.reduceMul, Nat.reduceSub, xf_same, xq_ff, xq_fo, xf_1, xf_2, xs_1, xs_2, xs_same, xq_so, xj_1, xj_2, xj_same, xq_jo, xq_sa1, xq_same, xq_other, upd_s, oI_n, oI_s, xv_0, xv_1, xv_2, xv_3, xm_p1, xm_p2, xq_fp, xq_fn, List.filter_nil, Nat.reduceBEq, Bool.not_true, Bool.not_false, Bool.and_true, Bool.and_false, Bool.false_and, Bool.true_and, if_true, if_false, Bool.false_eq_true, reduceIte, xc_i, xc_j, xc_r, xc_n, List.nil_append, List.cons_append, Option.toList_some, Option.toList_none, pt_9 hF hpp, tsl_e]
  exact xm_go_wk (by simp [Value.category]) (key cs _ 0 c1 (fun j hj => ((c3 j).mp hj).1) (by have := nd_len cn cs c2 (fun j hj => ((c3 j).mp hj).1); omega) (fun j hj => Or.inl hj))
end DS
