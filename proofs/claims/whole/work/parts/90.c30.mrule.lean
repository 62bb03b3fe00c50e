/-! ===== the reference: types of nodes ===== -/
def ndR (h : xm_H) (N : Nat) (cd fi se nu : Nat → Nat) : Prop := ∀ n, n < N → h.1 105 n = nI (cd n) ∧ cd n ≤ 12 ∧ (cd n ≤ 6 → h.1 106 n = nI (fi n) ∧ fi n < N) ∧ (cd n ≤ 2 → h.1 107 n = nI (se n) ∧ se n < N) ∧ (cd n = 12 → h.1 108 n = nI (nu n) ∧ nu n ≤ 167)
def msI (h : xm_H) (N : Nat) (cd fi se nu : Nat → Nat) (L : List Nat) (c : Nat) (k l r rt : Nat → Nat) (es : List (Nat × Nat)) (src tgt : Nat → Nat) : Prop :=
  XF h ∧ ndR h N cd fi se nu ∧ mgr h c k l r rt es ∧ tyS cd fi se nu L c k l r es src tgt ∧ (∀ n ∈ L, n < N ∧ (cd n ≠ 11 → h.1 111 n = nI (src n) ∧ h.1 112 n = nI (tgt n))) ∧ c ≤ 10 + 7 * L.length ∧ L.length ≤ 2000 ∧ N ≤ 2000 ∧ (∀ j, j < 9 → h.1 144 j = nI (j + 1) ∧ ty_den c k l r (ty_wd j) (j + 1)) ∧ 10 ≤ c ∧ ty_den c k l r tO 0
def mlR : List Nat := [111, 112, 138, 139, 140, 141, 143]
theorem msI_new {h h' : xm_H} {N : Nat} {cd fi se nu : Nat → Nat} {L : List Nat} {c c' : Nat} {k l r rt k' l' r' rt' : Nat → Nat} {es es' : List (Nat × Nat)} {src tgt : Nat → Nat} {n s t : Nat} (hI : msI h N cd fi se nu L c k l r rt es src tgt) (hn : n < N) (hnL : n ∉ L) (hl : L.length < 2000) (hf : Fr mlR mgT h h') (hg : mgr h' c' k' l' r' rt' es') (hS : tyS cd fi se nu (L ++ [n]) c' k' l' r' es' (updN src n s) (updN tgt n t)) (he : tx c c' k l r k' l' r') (hc : c' ≤ c + 7)
    (h6 : cd n ≠ 11 → h'.1 111 n = nI s ∧ h'.1 112 n = nI t) (ho : ∀ m, m ≠ n → h'.1 111 m = h.1 111 m ∧ h'.1 112 m = h.1 112 m) : msI h' N cd fi se nu (L ++ [n]) c' k' l' r' rt' es' (updN src n s) (updN tgt n t) := by
  obtain ⟨i1, i3, i4, i5, i6, i7, i8, i9, i10, i11, i12⟩ := hI
  have hce := he.1
  refine ⟨Fr_XF i1 hf mg_fin, fun m hm => ?_, hg, hS, fun m hm => ?_, by simp only [List.length_append, List.length_cons, List.length_nil]; omega, by simp only [List.length_append, List.length_cons, List.length_nil]; omega, i9, fun j hj => ⟨?_, ty_den_mono he.1 he.2 _ _ (i10 j hj).2⟩, by omega, ty_den_mono he.1 he.2 _ _ i12⟩
  · rw [hf.1 105 (by decide), hf.1 106 (by decide), hf.1 107 (by decide), hf.1 108 (by decide)]
    exact i3 m hm
  · rcases List.mem_append.mp hm with q | q
    · have hmn : m ≠ n := fun z => hnL (by rw [← z]; exact q)
      obtain ⟨j1, j2⟩ := i6 m q
      obtain ⟨o1, o2⟩ := ho m hmn
      exact ⟨j1, fun e => by rw [o1, o2, updN_o hmn, updN_o hmn]; exact j2 e⟩
    · rw [List.mem_singleton.mp q]
      exact ⟨hn, fun e => by rw [updN_s, updN_s]; exact h6 e⟩
  · rw [hf.1 144 (by decide)]
    exact (i10 j hj).1
theorem ml_ss {h1 : xm_H} {s t : Int32} {n m : Nat} (hm : m ≠ n) : (xm_si (xm_si h1 111 n s) 112 n t).1 111 m = h1.1 111 m ∧ (xm_si (xm_si h1 111 n s) 112 n t).1 112 m = h1.1 112 m := by
  constructor
  · rw [xq_so (by omega), xs_same, upd_o hm]
  · rw [xs_same, upd_o hm, xq_so (by omega)]
theorem ml_sn {h1 : xm_H} {s t : Int32} {n : Nat} : (xm_si (xm_si h1 111 n s) 112 n t).1 111 n = s ∧ (xm_si (xm_si h1 111 n s) 112 n t).1 112 n = t := by
  constructor
  · rw [xq_so (by omega), xs_same, upd_s]
  · rw [xs_same, upd_s]
theorem mgr_si {h1 : xm_H} {i n c : Nat} {s : Int32} {k l r rt : Nat → Nat} {es : List (Nat × Nat)} (hi : i = 111 ∨ i = 112) (hg : mgr h1 c k l r rt es) : mgr (xm_si h1 i n s) c k l r rt es :=
  mgr_fr hg (Fr_si (Fr_rf (S := [i]) (T := [])) (by simp)) (by simp) (by simp <;> omega) (by simp <;> omega) (by simp <;> omega) (by simp <;> omega)
theorem Fr_mg {h h1 : xm_H} (hf : Fr mgR mgT h h1) : Fr mlR mgT h h1 := Fr_mo hf (by simp [mgR, mlR]) (fun _ q => q)
theorem Fr_ms {h h1 : xm_H} {n : Nat} {s t : Int32} (hf : Fr mlR mgT h h1) : Fr mlR mgT h (xm_si (xm_si h1 111 n s) 112 n t) := Fr_si (Fr_si hf (by decide)) (by decide)
def mlP (N n : Nat) (cd fi se nu : Nat → Nat) (L : List Nat) (h : xm_H) (post : xm_Po) : Prop :=
  (∀ h' c' k' l' r' rt' es' src' tgt', Fr mlR mgT h h' → msI h' N cd fi se nu (L ++ [n]) c' k' l' r' rt' es' src' tgt' → post (some (.int (nI 1))) h') ∧ ∀ h', Fr mlR mgT h h' → (∀ S T, ¬ ty_sol cd fi se nu (L ++ [n]) S T) → post (some (.int (nI 0))) h'
section RUL
variable {sc : xm_Sc} {d N n : Nat} {cd fi se nu : Nat → Nat} {L : List Nat} {c : Nat} {k l r rt : Nat → Nat} {es : List (Nat × Nat)} {src tgt : Nat → Nat} {h : xm_H} {post : xm_Po}
/-- HIDDEN -/
theorem mty_11 (hI : msI h N cd fi se nu L c k l r rt es src tgt) (hn : n < N) (hnL : n ∉ L) (hl : L.length < 2000) (hch : ∀ m ∈ L, (cd m ≤ 6 → fi m ≠ n) ∧ (cd m ≤ 2 → se m ≠ n)) (hc : cd n = 11) (hP : mlP N n cd fi se nu L h post) : xm_T (XE sc) (d + 4) 316 [.ref 102, .int (nI n)] h post := by
  have hI0 := hI
  obtain ⟨i1, i3, i4, i5, i6, i7, i8, i9, i10, i11, i12⟩ := hI0
  obtain ⟨a1, a2, a3, a5, a7⟩ := i3 n hn
  rw [hc] at a1
  refine xq_in rfl ?_
  simp only [xq_a0, xq_aI, xq_aJ, xq_aR, Nat.reduceAdd]
  with_reducible refine xm_go_blk b_X12_typesOf_0 k_X12_typesOf_0 ?_
  refine by_aload_n rfl ?_
  refine by_getf cn_316 fl_12_19 (by first | exact rfl | assumption) (by decide) ?_
  refine by_iload_n rfl ?_
  simp (disch := first | exact Nat.ne_of_beq_eq_false rfl | exact rfl | omega) only [nI_add, xa_sub, xa_mul, pk_div, nm_mod, xa_shr, xa_and7, xa_and1, xa_and255, xa_by_and, nI_m1, Nat.add_sub_cancel, Nat.reducePow, Nat.zero_add, Nat.add_zero, Nat.reduceAdd, Nat.reduceMul, Nat.reduceSub, xf_same, xq_ff, xq_fo, xf_1, xf_2, xs_1, xs_2, xs_same, xq_so, xj_1, xj_2, xj_same, xq_jo, xq_sa1, xq_same, xq_other, upd_s, oI_n, oI_s, xf_102_6 i1, xf_102_7 i1, xf_102_8 i1, a1]
  first | refine by_iald (by first | exact rfl | assumption | exact ps_1 hpp | exact ps_2 hpp | exact ps_3 hpp | exact ps_4 hpp | exact ps_5 hpp | exact ps_6 hpp | exact ps_7 hpp | exact ps_8 hpp | exact ps_9 hpp | exact ps_10 hpp | exact ps_11 hpp | exact ps_15 hpp | exact ps_16 hpp | exact ps_17 hpp | exact ps_18 hpp | exact ps_19 hpp | exact ps_21 hpp | exact ps_22 hpp | exact ps_23 hpp | exact ps_24 hpp) ⟨by omega, by omega⟩ ?_ | refine by_tald rfl rfl ⟨by omega, by omega⟩ ?_
  refine by_istore_n (by rw [ml_316]; decide) ?_
  refine by_aload_n rfl ?_
  refine by_getf cn_316 fl_12_22 (by first | exact rfl | assumption) (by decide) ?_
  refine by_iload_n rfl ?_
  simp (disch := first | exact Nat.ne_of_beq_eq_false rfl | exact rfl | omega) only [nI_add, xa_sub, xa_mul, pk_div, nm_mod, xa_shr, xa_and7, xa_and1, xa_and255, xa_by_and, nI_m1, Nat.add_sub_cancel, Nat.reducePow, Nat.zero_add, Nat.add_zero, Nat.reduceAdd, Nat.reduceMul, Nat.reduceSub, xf_same, xq_ff, xq_fo, xf_1, xf_2, xs_1, xs_2, xs_same, xq_so, xj_1, xj_2, xj_same, xq_jo, xq_sa1, xq_same, xq_other, upd_s, oI_n, oI_s, xf_102_6 i1, xf_102_7 i1, xf_102_8 i1, a1]
  first | refine by_iald (by first | exact rfl | assumption | exact ps_1 hpp | exact ps_2 hpp | exact ps_3 hpp | exact ps_4 hpp | exact ps_5 hpp | exact ps_6 hpp | exact ps_7 hpp | exact ps_8 hpp | exact ps_9 hpp | exact ps_10 hpp | exact ps_11 hpp | exact ps_15 hpp | exact ps_16 hpp | exact ps_17 hpp | exact ps_18 hpp | exact ps_19 hpp | exact ps_21 hpp | exact ps_22 hpp | exact ps_23 hpp | exact ps_24 hpp) ⟨by omega, by omega⟩ ?_ | refine by_tald rfl rfl ⟨by omega, by omega⟩ ?_
  refine by_istore_n (by rw [ml_316]; decide) ?_
  refine by_aload_n rfl ?_
  refine by_getf cn_316 fl_12_16 (by first | exact rfl | assumption) (by decide) ?_
  refine by_iload_n rfl ?_
  simp (disch := first | exact Nat.ne_of_beq_eq_false rfl | exact rfl | omega) only [nI_add, xa_sub, xa_mul, pk_div, nm_mod, xa_shr, xa_and7, xa_and1, xa_and255, xa_by_and, nI_m1, Nat.add_sub_cancel, Nat.reducePow, Nat.zero_add, Nat.add_zero, Nat.reduceAdd, Nat.reduceMul, Nat.reduceSub, xf_same, xq_ff, xq_fo, xf_1, xf_2, xs_1, xs_2, xs_same, xq_so, xj_1, xj_2, xj_same, xq_jo, xq_sa1, xq_same, xq_other, upd_s, oI_n, oI_s, xf_102_6 i1, xf_102_7 i1, xf_102_8 i1, a1]
  first | refine by_iald (by first | exact rfl | assumption | exact ps_1 hpp | exact ps_2 hpp | exact ps_3 hpp | exact ps_4 hpp | exact ps_5 hpp | exact ps_6 hpp | exact ps_7 hpp | exact ps_8 hpp | exact ps_9 hpp | exact ps_10 hpp | exact ps_11 hpp | exact ps_15 hpp | exact ps_16 hpp | exact ps_17 hpp | exact ps_18 hpp | exact ps_19 hpp | exact ps_21 hpp | exact ps_22 hpp | exact ps_23 hpp | exact ps_24 hpp) ⟨by omega, by omega⟩ ?_ | refine by_tald rfl rfl ⟨by omega, by omega⟩ ?_
  simp (disch := first | exact Nat.ne_of_beq_eq_false rfl | exact rfl | omega) only [nI_add, xa_sub, xa_mul, pk_div, nm_mod, xa_shr, xa_and7, xa_and1, xa_and255, xa_by_and, nI_m1, Nat.add_sub_cancel, Nat.reducePow, Nat.zero_add, Nat.add_zero, Nat.reduceAdd, Nat.reduceMul, Nat.reduceSub, xf_same, xq_ff, xq_fo, xf_1, xf_2, xs_1, xs_2, xs_same, xq_so, xj_1, xj_2, xj_same, xq_jo, xq_sa1, xq_same, xq_other, upd_s, oI_n, oI_s, xf_102_6 i1, xf_102_7 i1, xf_102_8 i1, a1]
  refine by_sw ?_
  simp (disch := first | exact Nat.ne_of_beq_eq_false rfl | exact rfl | omega) only [nI_add, xa_sub, xa_mul, pk_div, nm_mod, xa_shr, xa_and7, xa_and1, xa_and255, xa_by_and, nI_m1, Nat.add_sub_cancel, Nat.reducePow, Nat.zero_add, Nat.add_zero, Nat.reduceAdd, Nat.reduceMul, Nat.reduceSub, xf_same, xq_ff, xq_fo, xf_1, xf_2, xs_1, xs_2, xs_same, xq_so, xj_1, xj_2, xj_same, xq_jo, xq_sa1, xq_same, xq_other, upd_s, oI_n, oI_s, xv_0, xv_1, xv_2, xv_3, xm_p1, xm_p2, xq_fp, xq_fn, List.filter_nil, Nat.reduceBEq, Bool.not_true, Bool.not_false, Bool.and_true, Bool.and_false, Bool.false_and, Bool.true_and, if_true, if_false, Bool.false_eq_true, reduceIte, xc_i, xc_j, xc_r, xc_n, List.nil_append, List.cons_append, Option.toList_some, Option.toList_none, xf_102_6 i1, xf_102_7 i1, xf_102_8 i1, a1]
  refine xq_sw 385 (by decide) (by decide) ?_
  with_reducible refine xm_go_blk b_X12_typesOf_385 k_X12_typesOf_385 ?_
  refine by_iconst ci_1 ?_
  refine by_iret ry_316 (by first | rfl | assumption) ?_
  refine hP.1 _ c k l r rt es (updN src n 0) (updN tgt n 0) Fr_rf (msI_new hI hn hnL hl Fr_rf i4 ?_ tx_rf (by omega) (fun e => absurd hc e) (fun m hm => ⟨rfl, rfl⟩))
  refine tyS_add i5 tx_rf (fun t h1 h2 => absurd h1 (by omega)) (fun q hq => Or.inl hq) (fun q hq => hq) hnL hch (fun e => absurd hc e) (fun f hf => ?_) (fun S T V hs ht hr v1 v2 v3 v4 => ⟨V, v1, fun _ _ => rfl, fun t h1 h2 => absurd h1 (by omega), v3, fun e => absurd hc e⟩)
  refine ⟨fun e => ?_, fun e => ?_, fun e => ?_, fun e => ?_, fun e => ?_, fun e => ?_, fun e => ?_, fun e => ?_, fun e => ?_, fun e => ?_⟩ <;> (rw [hc] at e; cases e)
theorem mty_7 (hI : msI h N cd fi se nu L c k l r rt es src tgt) (hn : n < N) (hnL : n ∉ L) (hl : L.length < 2000) (hch : ∀ m ∈ L, (cd m ≤ 6 → fi m ≠ n) ∧ (cd m ≤ 2 → se m ≠ n)) (hc : cd n = 7) (hP : mlP N n cd fi se nu L h post) : xm_T (XE sc) (d + 4) 316 [.ref 102, .int (nI n)] h post := by
  have hI0 := hI
  obtain ⟨i1, i3, i4, i5, i6, i7, i8, i9, i10, i11, i12⟩ := hI0
  obtain ⟨a1, a2, a3, a5, a7⟩ := i3 n hn
  rw [hc] at a1
  refine xq_in rfl ?_
  simp only [xq_a0, xq_aI, xq_aJ, xq_aR, Nat.reduceAdd]
  with_reducible refine xm_go_blk b_X12_typesOf_0 k_X12_typesOf_0 ?_
  refine by_aload_n rfl ?_
  refine by_getf cn_316 fl_12_19 (by first | exact rfl | assumption) (by decide) ?_
  refine by_iload_n rfl ?_
  simp (disch := first | exact Nat.ne_of_beq_eq_false rfl | exact rfl | omega) only [nI_add, xa_sub, xa_mul, pk_div, nm_mod, xa_shr, xa_and7, xa_and1, xa_and255, xa_by_and, nI_m1, Nat.add_sub_cancel, Nat.reducePow, Nat.zero_add, Nat.add_zero, Nat.reduceAdd, Nat.reduceMul, Nat.reduceSub, xf_same, xq_ff, xq_fo, xf_1, xf_2, xs_1, xs_2, xs_same, xq_so, xj_1, xj_2, xj_same, xq_jo, xq_sa1, xq_same, xq_other, upd_s, oI_n, oI_s, xf_102_6 i1, xf_102_7 i1, xf_102_8 i1, xf_102_12 i1, a1]
  first | refine by_iald (by first | exact rfl | assumption | exact ps_1 hpp | exact ps_2 hpp | exact ps_3 hpp | exact ps_4 hpp | exact ps_5 hpp | exact ps_6 hpp | exact ps_7 hpp | exact ps_8 hpp | exact ps_9 hpp | exact ps_10 hpp | exact ps_11 hpp | exact ps_15 hpp | exact ps_16 hpp | exact ps_17 hpp | exact ps_18 hpp | exact ps_19 hpp | exact ps_21 hpp | exact ps_22 hpp | exact ps_23 hpp | exact ps_24 hpp) ⟨by omega, by omega⟩ ?_ | refine by_tald rfl rfl ⟨by omega, by omega⟩ ?_
  refine by_istore_n (by rw [ml_316]; decide) ?_
  refine by_aload_n rfl ?_
  refine by_getf cn_316 fl_12_22 (by first | exact rfl | assumption) (by decide) ?_
  refine by_iload_n rfl ?_
  simp (disch := first | exact Nat.ne_of_beq_eq_false rfl | exact rfl | omega) only [nI_add, xa_sub, xa_mul, pk_div, nm_mod, xa_shr, xa_and7, xa_and1, xa_and255, xa_by_and, nI_m1, Nat.add_sub_cancel, Nat.reducePow, Nat.zero_add, Nat.add_zero, Nat.reduceAdd, Nat.reduceMul, Nat.reduceSub, xf_same, xq_ff, xq_fo, xf_1, xf_2, xs_1, xs_2, xs_same, xq_so, xj_1, xj_2, xj_same, xq_jo, xq_sa1, xq_same, xq_other, upd_s, oI_n, oI_s, xf_102_6 i1, xf_102_7 i1, xf_102_8 i1, xf_102_12 i1, a1]
  first | refine by_iald (by first | exact rfl | assumption | exact ps_1 hpp | exact ps_2 hpp | exact ps_3 hpp | exact ps_4 hpp | exact ps_5 hpp | exact ps_6 hpp | exact ps_7 hpp | exact ps_8 hpp | exact ps_9 hpp | exact ps_10 hpp | exact ps_11 hpp | exact ps_15 hpp | exact ps_16 hpp | exact ps_17 hpp | exact ps_18 hpp | exact ps_19 hpp | exact ps_21 hpp | exact ps_22 hpp | exact ps_23 hpp | exact ps_24 hpp) ⟨by omega, by omega⟩ ?_ | refine by_tald rfl rfl ⟨by omega, by omega⟩ ?_
  refine by_istore_n (by rw [ml_316]; decide) ?_
  refine by_aload_n rfl ?_
  refine by_getf cn_316 fl_12_16 (by first | exact rfl | assumption) (by decide) ?_
  refine by_iload_n rfl ?_
  simp (disch := first | exact Nat.ne_of_beq_eq_false rfl | exact rfl | omega) only [nI_add, xa_sub, xa_mul, pk_div, nm_mod, xa_shr, xa_and7, xa_and1, xa_and255, xa_by_and, nI_m1, Nat.add_sub_cancel, Nat.reducePow, Nat.zero_add, Nat.add_zero, Nat.reduceAdd, Nat.reduceMul, Nat.reduceSub, xf_same, xq_ff, xq_fo, xf_1, xf_2, xs_1, xs_2, xs_same, xq_so, xj_1, xj_2, xj_same, xq_jo, xq_sa1, xq_same, xq_other, upd_s, oI_n, oI_s, xf_102_6 i1, xf_102_7 i1, xf_102_8 i1, xf_102_12 i1, a1]
  first | refine by_iald (by first | exact rfl | assumption | exact ps_1 hpp | exact ps_2 hpp | exact ps_3 hpp | exact ps_4 hpp | exact ps_5 hpp | exact ps_6 hpp | exact ps_7 hpp | exact ps_8 hpp | exact ps_9 hpp | exact ps_10 hpp | exact ps_11 hpp | exact ps_15 hpp | exact ps_16 hpp | exact ps_17 hpp | exact ps_18 hpp | exact ps_19 hpp | exact ps_21 hpp | exact ps_22 hpp | exact ps_23 hpp | exact ps_24 hpp) ⟨by omega, by omega⟩ ?_ | refine by_tald rfl rfl ⟨by omega, by omega⟩ ?_
  simp (disch := first | exact Nat.ne_of_beq_eq_false rfl | exact rfl | omega) only [nI_add, xa_sub, xa_mul, pk_div, nm_mod, xa_shr, xa_and7, xa_and1, xa_and255, xa_by_and, nI_m1, Nat.add_sub_cancel, Nat.reducePow, Nat.zero_add, Nat.add_zero, Nat.reduceAdd, Nat.reduceMul, Nat.reduceSub, xf_same, xq_ff, xq_fo, xf_1, xf_2, xs_1, xs_2, xs_same, xq_so, xj_1, xj_2, xj_same, xq_jo, xq_sa1, xq_same, xq_other, upd_s, oI_n, oI_s, xf_102_6 i1, xf_102_7 i1, xf_102_8 i1, xf_102_12 i1, a1]
  refine by_sw ?_
  simp (disch := first | exact Nat.ne_of_beq_eq_false rfl | exact rfl | omega) only [nI_add, xa_sub, xa_mul, pk_div, nm_mod, xa_shr, xa_and7, xa_and1, xa_and255, xa_by_and, nI_m1, Nat.add_sub_cancel, Nat.reducePow, Nat.zero_add, Nat.add_zero, Nat.reduceAdd, Nat.reduceMul, Nat.reduceSub, xf_same, xq_ff, xq_fo, xf_1, xf_2, xs_1, xs_2, xs_same, xq_so, xj_1, xj_2, xj_same, xq_jo, xq_sa1, xq_same, xq_other, upd_s, oI_n, oI_s, xv_0, xv_1, xv_2, xv_3, xm_p1, xm_p2, xq_fp, xq_fn, List.filter_nil, Nat.reduceBEq, Bool.not_true, Bool.not_false, Bool.and_true, Bool.and_false, Bool.false_and, Bool.true_and, if_true, if_false, Bool.false_eq_true, reduceIte, xc_i, xc_j, xc_r, xc_n, List.nil_append, List.cons_append, Option.toList_some, Option.toList_none, xf_102_6 i1, xf_102_7 i1, xf_102_8 i1, xf_102_12 i1, a1]
  refine xq_sw 313 (by decide) (by decide) ?_
  with_reducible refine xm_go_blk b_X12_typesOf_313 k_X12_typesOf_313 ?_
  refine by_aload_n rfl ?_
  refine by_getf cn_316 fl_12_34 (by first | exact rfl | assumption) (by decide) ?_
  refine by_iload_n rfl ?_
  refine by_aload_n rfl ?_
  simp (disch := first | exact Nat.ne_of_beq_eq_false rfl | exact rfl | omega) only [nI_add, xa_sub, xa_mul, pk_div, nm_mod, xa_shr, xa_and7, xa_and1, xa_and255, xa_by_and, nI_m1, Nat.add_sub_cancel, Nat.reducePow, Nat.zero_add, Nat.add_zero, Nat.reduceAdd, Nat.reduceMul, Nat.reduceSub, xf_same, xq_ff, xq_fo, xf_1, xf_2, xs_1, xs_2, xs_same, xq_so, xj_1, xj_2, xj_same, xq_jo, xq_sa1, xq_same, xq_other, upd_s, oI_n, oI_s, xv_0, xv_1, xv_2, xv_3, xm_p1, xm_p2, xq_fp, xq_fn, List.filter_nil, Nat.reduceBEq, Bool.not_true, Bool.not_false, Bool.and_true, Bool.and_false, Bool.false_and, Bool.true_and, if_true, if_false, Bool.false_eq_true, reduceIte, xc_i, xc_j, xc_r, xc_n, List.nil_append, List.cons_append, Option.toList_some, Option.toList_none, xf_102_6 i1, xf_102_7 i1, xf_102_8 i1, xf_102_12 i1, a1]
  refine by_inv0 cn_316 lk_12_246 (by rw [xe_cnt]; decide) is_273 np_273 cn_273 (by first | exact rfl | assumption) (Nat.le_of_ble_eq_true rfl) ?_
  refine sp_mopen i1 i4 (by omega) (fun h1 g1 g2 => ?_)
  have j1 : XF h1 := Fr_XF i1 g1 mg_fin
  with_reducible refine xm_go_blk b_X12_typesOf_322 k_X12_typesOf_322 ?_
  refine by_iast (by first | exact rfl | assumption | exact ps_1 hpp | exact ps_2 hpp | exact ps_3 hpp | exact ps_4 hpp | exact ps_5 hpp | exact ps_6 hpp | exact ps_7 hpp | exact ps_8 hpp | exact ps_9 hpp | exact ps_10 hpp | exact ps_11 hpp | exact ps_15 hpp | exact ps_16 hpp | exact ps_17 hpp | exact ps_18 hpp | exact ps_19 hpp | exact ps_21 hpp | exact ps_22 hpp | exact ps_23 hpp | exact ps_24 hpp) ⟨by omega, by omega⟩ ?_
  refine by_aload_n rfl ?_
  refine by_getf cn_316 fl_12_37 (by first | exact rfl | assumption) (by decide) ?_
  refine by_iload_n rfl ?_
  refine by_aload_n rfl ?_
  refine by_getf cn_316 fl_12_34 (by first | exact rfl | assumption) (by decide) ?_
  refine by_iload_n rfl ?_
  simp (disch := first | exact Nat.ne_of_beq_eq_false rfl | exact rfl | omega) only [nI_add, xa_sub, xa_mul, pk_div, nm_mod, xa_shr, xa_and7, xa_and1, xa_and255, xa_by_and, nI_m1, Nat.add_sub_cancel, Nat.reducePow, Nat.zero_add, Nat.add_zero, Nat.reduceAdd, Nat.reduceMul, Nat.reduceSub, xf_same, xq_ff, xq_fo, xf_1, xf_2, xs_1, xs_2, xs_same, xq_so, xj_1, xj_2, xj_same, xq_jo, xq_sa1, xq_same, xq_other, upd_s, oI_n, oI_s, xf_102_12 j1, xf_102_13 j1]
  first | refine by_iald (by first | exact rfl | assumption | exact ps_1 hpp | exact ps_2 hpp | exact ps_3 hpp | exact ps_4 hpp | exact ps_5 hpp | exact ps_6 hpp | exact ps_7 hpp | exact ps_8 hpp | exact ps_9 hpp | exact ps_10 hpp | exact ps_11 hpp | exact ps_15 hpp | exact ps_16 hpp | exact ps_17 hpp | exact ps_18 hpp | exact ps_19 hpp | exact ps_21 hpp | exact ps_22 hpp | exact ps_23 hpp | exact ps_24 hpp) ⟨by omega, by omega⟩ ?_ | refine by_tald rfl rfl ⟨by omega, by omega⟩ ?_
  refine by_iast (by first | exact rfl | assumption | exact ps_1 hpp | exact ps_2 hpp | exact ps_3 hpp | exact ps_4 hpp | exact ps_5 hpp | exact ps_6 hpp | exact ps_7 hpp | exact ps_8 hpp | exact ps_9 hpp | exact ps_10 hpp | exact ps_11 hpp | exact ps_15 hpp | exact ps_16 hpp | exact ps_17 hpp | exact ps_18 hpp | exact ps_19 hpp | exact ps_21 hpp | exact ps_22 hpp | exact ps_23 hpp | exact ps_24 hpp) ⟨by omega, by omega⟩ ?_
  refine by_iconst ci_1 ?_
  simp (disch := first | exact Nat.ne_of_beq_eq_false rfl | exact rfl | omega) only [nI_add, xa_sub, xa_mul, pk_div, nm_mod, xa_shr, xa_and7, xa_and1, xa_and255, xa_by_and, nI_m1, Nat.add_sub_cancel, Nat.reducePow, Nat.zero_add, Nat.add_zero, Nat.reduceAdd, Nat.reduceMul, Nat.reduceSub, xf_same, xq_ff, xq_fo, xf_1, xf_2, xs_1, xs_2, xs_same, xq_so, xj_1, xj_2, xj_same, xq_jo, xq_sa1, xq_same, xq_other, upd_s, oI_n, oI_s, xf_102_12 j1, xf_102_13 j1]
  refine by_iret ry_316 (by first | rfl | assumption) ?_
  refine hP.1 _ _ _ _ _ _ _ _ _ (Fr_ms (Fr_mg g1)) (msI_new (s := c) (t := c) hI hn hnL hl (Fr_ms (Fr_mg g1)) (mgr_si (Or.inr rfl) (mgr_si (Or.inl rfl) g2)) ?_ updN_tx (by omega) (fun _ => ml_sn) (fun m hm => by rw [(ml_ss hm).1, (ml_ss hm).2, g1.1 111 (by decide), g1.1 112 (by decide)]; exact ⟨rfl, rfl⟩))
  refine tyS_add i5 updN_tx (fun t h1 h2 => ?_) (fun q hq => Or.inl hq) (fun q hq => hq) hnL hch (fun _ => ⟨by omega, by omega⟩) (fun f hf => ?_) (fun S T V hs ht hr v1 v2 v3 v4 => ⟨tvx V c [S n], tvx_ok v1 (by simp only [List.mem_singleton]; rintro a rfl; exact hs n), fun t ht => tvx_o ht, fun t h1 h2 => ?_, tx_pd i5.2.1 v3 (fun t ht => tvx_o ht), fun _ => ?_⟩)
  · have : t = c := by omega
    subst this
    rw [updN_s]; exact ⟨by decide, fun q => absurd q (by decide)⟩
  · refine ⟨fun e => ?_, fun e => ?_, fun e => ?_, fun e => ?_, fun e => ?_, fun e => ?_, fun e => ?_, fun e => ?_, fun e => ?_, fun e => ?_⟩ <;> first | (exfalso; omega) | skip
    rw [updN_s, updN_s]
  · have : t = c := by omega
    subst this
    rw [updN_s]; exact ⟨nofun, nofun, nofun⟩
  · have e := tvx_n (V := V) (c := c) (i := 0) (g := [S n])
    rw [Nat.add_zero] at e
    rw [e]
    exact ⟨rfl, (hr.2.2.2.2.2.2.2.1 hc).symm⟩
theorem mty_8 (hI : msI h N cd fi se nu L c k l r rt es src tgt) (hn : n < N) (hnL : n ∉ L) (hl : L.length < 2000) (hch : ∀ m ∈ L, (cd m ≤ 6 → fi m ≠ n) ∧ (cd m ≤ 2 → se m ≠ n)) (hc : cd n = 8) (hP : mlP N n cd fi se nu L h post) : xm_T (XE sc) (d + 4) 316 [.ref 102, .int (nI n)] h post := by
  have hI0 := hI
  obtain ⟨i1, i3, i4, i5, i6, i7, i8, i9, i10, i11, z1⟩ := hI0
  obtain ⟨a1, a2, a3, a5, a7⟩ := i3 n hn
  rw [hc] at a1
  refine xq_in rfl ?_
  simp only [xq_a0, xq_aI, xq_aJ, xq_aR, Nat.reduceAdd]
  with_reducible refine xm_go_blk b_X12_typesOf_0 k_X12_typesOf_0 ?_
  refine by_aload_n rfl ?_
  refine by_getf cn_316 fl_12_19 (by first | exact rfl | assumption) (by decide) ?_
  refine by_iload_n rfl ?_
  simp (disch := first | exact Nat.ne_of_beq_eq_false rfl | exact rfl | omega) only [nI_add, xa_sub, xa_mul, pk_div, nm_mod, xa_shr, xa_and7, xa_and1, xa_and255, xa_by_and, nI_m1, Nat.add_sub_cancel, Nat.reducePow, Nat.zero_add, Nat.add_zero, Nat.reduceAdd, Nat.reduceMul, Nat.reduceSub, xf_same, xq_ff, xq_fo, xf_1, xf_2, xs_1, xs_2, xs_same, xq_so, xj_1, xj_2, xj_same, xq_jo, xq_sa1, xq_same, xq_other, upd_s, oI_n, oI_s, xf_102_6 i1, xf_102_7 i1, xf_102_8 i1, xf_102_12 i1, a1]
  first | refine by_iald (by first | exact rfl | assumption | exact ps_1 hpp | exact ps_2 hpp | exact ps_3 hpp | exact ps_4 hpp | exact ps_5 hpp | exact ps_6 hpp | exact ps_7 hpp | exact ps_8 hpp | exact ps_9 hpp | exact ps_10 hpp | exact ps_11 hpp | exact ps_15 hpp | exact ps_16 hpp | exact ps_17 hpp | exact ps_18 hpp | exact ps_19 hpp | exact ps_21 hpp | exact ps_22 hpp | exact ps_23 hpp | exact ps_24 hpp) ⟨by omega, by omega⟩ ?_ | refine by_tald rfl rfl ⟨by omega, by omega⟩ ?_
  refine by_istore_n (by rw [ml_316]; decide) ?_
  refine by_aload_n rfl ?_
  refine by_getf cn_316 fl_12_22 (by first | exact rfl | assumption) (by decide) ?_
  refine by_iload_n rfl ?_
  simp (disch := first | exact Nat.ne_of_beq_eq_false rfl | exact rfl | omega) only [nI_add, xa_sub, xa_mul, pk_div, nm_mod, xa_shr, xa_and7, xa_and1, xa_and255, xa_by_and, nI_m1, Nat.add_sub_cancel, Nat.reducePow, Nat.zero_add, Nat.add_zero, Nat.reduceAdd, Nat.reduceMul, Nat.reduceSub, xf_same, xq_ff, xq_fo, xf_1, xf_2, xs_1, xs_2, xs_same, xq_so, xj_1, xj_2, xj_same, xq_jo, xq_sa1, xq_same, xq_other, upd_s, oI_n, oI_s, xf_102_6 i1, xf_102_7 i1, xf_102_8 i1, xf_102_12 i1, a1]
  first | refine by_iald (by first | exact rfl | assumption | exact ps_1 hpp | exact ps_2 hpp | exact ps_3 hpp | exact ps_4 hpp | exact ps_5 hpp | exact ps_6 hpp | exact ps_7 hpp | exact ps_8 hpp | exact ps_9 hpp | exact ps_10 hpp | exact ps_11 hpp | exact ps_15 hpp | exact ps_16 hpp | exact ps_17 hpp | exact ps_18 hpp | exact ps_19 hpp | exact ps_21 hpp | exact ps_22 hpp | exact ps_23 hpp | exact ps_24 hpp) ⟨by omega, by omega⟩ ?_ | refine by_tald rfl rfl ⟨by omega, by omega⟩ ?_
  refine by_istore_n (by rw [ml_316]; decide) ?_
  refine by_aload_n rfl ?_
  refine by_getf cn_316 fl_12_16 (by first | exact rfl | assumption) (by decide) ?_
  refine by_iload_n rfl ?_
  simp (disch := first | exact Nat.ne_of_beq_eq_false rfl | exact rfl | omega) only [nI_add, xa_sub, xa_mul, pk_div, nm_mod, xa_shr, xa_and7, xa_and1, xa_and255, xa_by_and, nI_m1, Nat.add_sub_cancel, Nat.reducePow, Nat.zero_add, Nat.add_zero, Nat.reduceAdd, Nat.reduceMul, Nat.reduceSub, xf_same, xq_ff, xq_fo, xf_1, xf_2, xs_1, xs_2, xs_same, xq_so, xj_1, xj_2, xj_same, xq_jo, xq_sa1, xq_same, xq_other, upd_s, oI_n, oI_s, xf_102_6 i1, xf_102_7 i1, xf_102_8 i1, xf_102_12 i1, a1]
  first | refine by_iald (by first | exact rfl | assumption | exact ps_1 hpp | exact ps_2 hpp | exact ps_3 hpp | exact ps_4 hpp | exact ps_5 hpp | exact ps_6 hpp | exact ps_7 hpp | exact ps_8 hpp | exact ps_9 hpp | exact ps_10 hpp | exact ps_11 hpp | exact ps_15 hpp | exact ps_16 hpp | exact ps_17 hpp | exact ps_18 hpp | exact ps_19 hpp | exact ps_21 hpp | exact ps_22 hpp | exact ps_23 hpp | exact ps_24 hpp) ⟨by omega, by omega⟩ ?_ | refine by_tald rfl rfl ⟨by omega, by omega⟩ ?_
  simp (disch := first | exact Nat.ne_of_beq_eq_false rfl | exact rfl | omega) only [nI_add, xa_sub, xa_mul, pk_div, nm_mod, xa_shr, xa_and7, xa_and1, xa_and255, xa_by_and, nI_m1, Nat.add_sub_cancel, Nat.reducePow, Nat.zero_add, Nat.add_zero, Nat.reduceAdd, Nat.reduceMul, Nat.reduceSub, xf_same, xq_ff, xq_fo, xf_1, xf_2, xs_1, xs_2, xs_same, xq_so, xj_1, xj_2, xj_same, xq_jo, xq_sa1, xq_same, xq_other, upd_s, oI_n, oI_s, xf_102_6 i1, xf_102_7 i1, xf_102_8 i1, xf_102_12 i1, a1]
  refine by_sw ?_
  simp (disch := first | exact Nat.ne_of_beq_eq_false rfl | exact rfl | omega) only [nI_add, xa_sub, xa_mul, pk_div, nm_mod, xa_shr, xa_and7, xa_and1, xa_and255, xa_by_and, nI_m1, Nat.add_sub_cancel, Nat.reducePow, Nat.zero_add, Nat.add_zero, Nat.reduceAdd, Nat.reduceMul, Nat.reduceSub, xf_same, xq_ff, xq_fo, xf_1, xf_2, xs_1, xs_2, xs_same, xq_so, xj_1, xj_2, xj_same, xq_jo, xq_sa1, xq_same, xq_other, upd_s, oI_n, oI_s, xv_0, xv_1, xv_2, xv_3, xm_p1, xm_p2, xq_fp, xq_fn, List.filter_nil, Nat.reduceBEq, Bool.not_true, Bool.not_false, Bool.and_true, Bool.and_false, Bool.false_and, Bool.true_and, if_true, if_false, Bool.false_eq_true, reduceIte, xc_i, xc_j, xc_r, xc_n, List.nil_append, List.cons_append, Option.toList_some, Option.toList_none, xf_102_6 i1, xf_102_7 i1, xf_102_8 i1, xf_102_12 i1, a1]
  refine xq_sw 337 (by decide) (by decide) ?_
  with_reducible refine xm_go_blk b_X12_typesOf_337 k_X12_typesOf_337 ?_
  refine by_aload_n rfl ?_
  refine by_getf cn_316 fl_12_34 (by first | exact rfl | assumption) (by decide) ?_
  refine by_iload_n rfl ?_
  refine by_aload_n rfl ?_
  simp (disch := first | exact Nat.ne_of_beq_eq_false rfl | exact rfl | omega) only [nI_add, xa_sub, xa_mul, pk_div, nm_mod, xa_shr, xa_and7, xa_and1, xa_and255, xa_by_and, nI_m1, Nat.add_sub_cancel, Nat.reducePow, Nat.zero_add, Nat.add_zero, Nat.reduceAdd, Nat.reduceMul, Nat.reduceSub, xf_same, xq_ff, xq_fo, xf_1, xf_2, xs_1, xs_2, xs_same, xq_so, xj_1, xj_2, xj_same, xq_jo, xq_sa1, xq_same, xq_other, upd_s, oI_n, oI_s, xv_0, xv_1, xv_2, xv_3, xm_p1, xm_p2, xq_fp, xq_fn, List.filter_nil, Nat.reduceBEq, Bool.not_true, Bool.not_false, Bool.and_true, Bool.and_false, Bool.false_and, Bool.true_and, if_true, if_false, Bool.false_eq_true, reduceIte, xc_i, xc_j, xc_r, xc_n, List.nil_append, List.cons_append, Option.toList_some, Option.toList_none, xf_102_6 i1, xf_102_7 i1, xf_102_8 i1, xf_102_12 i1, a1]
  refine by_inv0 cn_316 lk_12_246 (by rw [xe_cnt]; decide) is_273 np_273 cn_273 (by first | exact rfl | assumption) (Nat.le_of_ble_eq_true rfl) ?_
  refine sp_mopen i1 i4 (by omega) (fun h1 g1 g2 => ?_)
  have j1 : XF h1 := Fr_XF i1 g1 mg_fin
  with_reducible refine xm_go_blk b_X12_typesOf_346 k_X12_typesOf_346 ?_
  refine by_iast (by first | exact rfl | assumption | exact ps_1 hpp | exact ps_2 hpp | exact ps_3 hpp | exact ps_4 hpp | exact ps_5 hpp | exact ps_6 hpp | exact ps_7 hpp | exact ps_8 hpp | exact ps_9 hpp | exact ps_10 hpp | exact ps_11 hpp | exact ps_15 hpp | exact ps_16 hpp | exact ps_17 hpp | exact ps_18 hpp | exact ps_19 hpp | exact ps_21 hpp | exact ps_22 hpp | exact ps_23 hpp | exact ps_24 hpp) ⟨by omega, by omega⟩ ?_
  refine by_aload_n rfl ?_
  refine by_getf cn_316 fl_12_37 (by first | exact rfl | assumption) (by decide) ?_
  refine by_iload_n rfl ?_
  refine by_iconst ci_0 ?_
  simp (disch := first | exact Nat.ne_of_beq_eq_false rfl | exact rfl | omega) only [nI_add, xa_sub, xa_mul, pk_div, nm_mod, xa_shr, xa_and7, xa_and1, xa_and255, xa_by_and, nI_m1, Nat.add_sub_cancel, Nat.reducePow, Nat.zero_add, Nat.add_zero, Nat.reduceAdd, Nat.reduceMul, Nat.reduceSub, xf_same, xq_ff, xq_fo, xf_1, xf_2, xs_1, xs_2, xs_same, xq_so, xj_1, xj_2, xj_same, xq_jo, xq_sa1, xq_same, xq_other, upd_s, oI_n, oI_s, xf_102_12 j1, xf_102_13 j1]
  refine by_iast (by first | exact rfl | assumption | exact ps_1 hpp | exact ps_2 hpp | exact ps_3 hpp | exact ps_4 hpp | exact ps_5 hpp | exact ps_6 hpp | exact ps_7 hpp | exact ps_8 hpp | exact ps_9 hpp | exact ps_10 hpp | exact ps_11 hpp | exact ps_15 hpp | exact ps_16 hpp | exact ps_17 hpp | exact ps_18 hpp | exact ps_19 hpp | exact ps_21 hpp | exact ps_22 hpp | exact ps_23 hpp | exact ps_24 hpp) ⟨by omega, by omega⟩ ?_
  refine by_iconst ci_1 ?_
  refine by_iret ry_316 (by first | rfl | assumption) ?_
  refine hP.1 _ _ _ _ _ _ _ _ _ (Fr_ms (Fr_mg g1)) (msI_new (s := c) (t := 0) hI hn hnL hl (Fr_ms (Fr_mg g1)) (mgr_si (Or.inr rfl) (mgr_si (Or.inl rfl) g2)) ?_ updN_tx (by omega) (fun _ => ml_sn) (fun m hm => by rw [(ml_ss hm).1, (ml_ss hm).2, g1.1 111 (by decide), g1.1 112 (by decide)]; exact ⟨rfl, rfl⟩))
  refine tyS_add i5 updN_tx (fun t h1 h2 => ?_) (fun q hq => Or.inl hq) (fun q hq => hq) hnL hch (fun _ => ⟨by omega, by omega⟩) (fun f hf => ?_) (fun S T V hs ht hr v1 v2 v3 v4 => ⟨tvx V c [S n], tvx_ok v1 (by simp only [List.mem_singleton]; rintro a rfl; exact hs n), fun t ht => tvx_o ht, fun t h1 h2 => ?_, tx_pd i5.2.1 v3 (fun t ht => tvx_o ht), fun _ => ?_⟩)
  · have : t = c := by omega
    subst this
    rw [updN_s]; exact ⟨by decide, fun q => absurd q (by decide)⟩
  · refine ⟨fun e => ?_, fun e => ?_, fun e => ?_, fun e => ?_, fun e => ?_, fun e => ?_, fun e => ?_, fun e => ?_, fun e => ?_, fun e => ?_⟩ <;> first | (exfalso; omega) | skip
    rw [updN_s, updN_o (by omega)]
    exact ⟨by omega, z1.2⟩
  · have : t = c := by omega
    subst this
    rw [updN_s]; exact ⟨nofun, nofun, nofun⟩
  · have e := tvx_n (V := V) (c := c) (i := 0) (g := [S n])
    rw [Nat.add_zero] at e
    rw [e, tvx_o (by omega), (v2 0 (by omega)).1 z1.2]
    exact ⟨rfl, (hr.2.2.2.2.2.2.2.2.1 hc).symm⟩
theorem mty_9 (hI : msI h N cd fi se nu L c k l r rt es src tgt) (hn : n < N) (hnL : n ∉ L) (hl : L.length < 2000) (hch : ∀ m ∈ L, (cd m ≤ 6 → fi m ≠ n) ∧ (cd m ≤ 2 → se m ≠ n)) (hc : cd n = 9) (hP : mlP N n cd fi se nu L h post) : xm_T (XE sc) (d + 4) 316 [.ref 102, .int (nI n)] h post := by
  have hI0 := hI
  obtain ⟨i1, i3, i4, i5, i6, i7, i8, i9, i10, i11, i12⟩ := hI0
  obtain ⟨a1, a2, a3, a5, a7⟩ := i3 n hn
  rw [hc] at a1
  refine xq_in rfl ?_
  simp only [xq_a0, xq_aI, xq_aJ, xq_aR, Nat.reduceAdd]
  with_reducible refine xm_go_blk b_X12_typesOf_0 k_X12_typesOf_0 ?_
  refine by_aload_n rfl ?_
  refine by_getf cn_316 fl_12_19 (by first | exact rfl | assumption) (by decide) ?_
  refine by_iload_n rfl ?_
  simp (disch := first | exact Nat.ne_of_beq_eq_false rfl | exact rfl | omega) only [nI_add, xa_sub, xa_mul, pk_div, nm_mod, xa_shr, xa_and7, xa_and1, xa_and255, xa_by_and, nI_m1, Nat.add_sub_cancel, Nat.reducePow, Nat.zero_add, Nat.add_zero, Nat.reduceAdd, Nat.reduceMul, Nat.reduceSub, xf_same, xq_ff, xq_fo, xf_1, xf_2, xs_1, xs_2, xs_same, xq_so, xj_1, xj_2, xj_same, xq_jo, xq_sa1, xq_same, xq_other, upd_s, oI_n, oI_s, xf_102_6 i1, xf_102_7 i1, xf_102_8 i1, xf_102_12 i1, a1]
  first | refine by_iald (by first | exact rfl | assumption | exact ps_1 hpp | exact ps_2 hpp | exact ps_3 hpp | exact ps_4 hpp | exact ps_5 hpp | exact ps_6 hpp | exact ps_7 hpp | exact ps_8 hpp | exact ps_9 hpp | exact ps_10 hpp | exact ps_11 hpp | exact ps_15 hpp | exact ps_16 hpp | exact ps_17 hpp | exact ps_18 hpp | exact ps_19 hpp | exact ps_21 hpp | exact ps_22 hpp | exact ps_23 hpp | exact ps_24 hpp) ⟨by omega, by omega⟩ ?_ | refine by_tald rfl rfl ⟨by omega, by omega⟩ ?_
  refine by_istore_n (by rw [ml_316]; decide) ?_
  refine by_aload_n rfl ?_
  refine by_getf cn_316 fl_12_22 (by first | exact rfl | assumption) (by decide) ?_
  refine by_iload_n rfl ?_
  simp (disch := first | exact Nat.ne_of_beq_eq_false rfl | exact rfl | omega) only [nI_add, xa_sub, xa_mul, pk_div, nm_mod, xa_shr, xa_and7, xa_and1, xa_and255, xa_by_and, nI_m1, Nat.add_sub_cancel, Nat.reducePow, Nat.zero_add, Nat.add_zero, Nat.reduceAdd, Nat.reduceMul, Nat.reduceSub, xf_same, xq_ff, xq_fo, xf_1, xf_2, xs_1, xs_2, xs_same, xq_so, xj_1, xj_2, xj_same, xq_jo, xq_sa1, xq_same, xq_other, upd_s, oI_n, oI_s, xf_102_6 i1, xf_102_7 i1, xf_102_8 i1, xf_102_12 i1, a1]
  first | refine by_iald (by first | exact rfl | assumption | exact ps_1 hpp | exact ps_2 hpp | exact ps_3 hpp | exact ps_4 hpp | exact ps_5 hpp | exact ps_6 hpp | exact ps_7 hpp | exact ps_8 hpp | exact ps_9 hpp | exact ps_10 hpp | exact ps_11 hpp | exact ps_15 hpp | exact ps_16 hpp | exact ps_17 hpp | exact ps_18 hpp | exact ps_19 hpp | exact ps_21 hpp | exact ps_22 hpp | exact ps_23 hpp | exact ps_24 hpp) ⟨by omega, by omega⟩ ?_ | refine by_tald rfl rfl ⟨by omega, by omega⟩ ?_
  refine by_istore_n (by rw [ml_316]; decide) ?_
  refine by_aload_n rfl ?_
  refine by_getf cn_316 fl_12_16 (by first | exact rfl | assumption) (by decide) ?_
  refine by_iload_n rfl ?_
  simp (disch := first | exact Nat.ne_of_beq_eq_false rfl | exact rfl | omega) only [nI_add, xa_sub, xa_mul, pk_div, nm_mod, xa_shr, xa_and7, xa_and1, xa_and255, xa_by_and, nI_m1, Nat.add_sub_cancel, Nat.reducePow, Nat.zero_add, Nat.add_zero, Nat.reduceAdd, Nat.reduceMul, Nat.reduceSub, xf_same, xq_ff, xq_fo, xf_1, xf_2, xs_1, xs_2, xs_same, xq_so, xj_1, xj_2, xj_same, xq_jo, xq_sa1, xq_same, xq_other, upd_s, oI_n, oI_s, xf_102_6 i1, xf_102_7 i1, xf_102_8 i1, xf_102_12 i1, a1]
  first | refine by_iald (by first | exact rfl | assumption | exact ps_1 hpp | exact ps_2 hpp | exact ps_3 hpp | exact ps_4 hpp | exact ps_5 hpp | exact ps_6 hpp | exact ps_7 hpp | exact ps_8 hpp | exact ps_9 hpp | exact ps_10 hpp | exact ps_11 hpp | exact ps_15 hpp | exact ps_16 hpp | exact ps_17 hpp | exact ps_18 hpp | exact ps_19 hpp | exact ps_21 hpp | exact ps_22 hpp | exact ps_23 hpp | exact ps_24 hpp) ⟨by omega, by omega⟩ ?_ | refine by_tald rfl rfl ⟨by omega, by omega⟩ ?_
  simp (disch := first | exact Nat.ne_of_beq_eq_false rfl | exact rfl | omega) only [nI_add, xa_sub, xa_mul, pk_div, nm_mod, xa_shr, xa_and7, xa_and1, xa_and255, xa_by_and, nI_m1, Nat.add_sub_cancel, Nat.reducePow, Nat.zero_add, Nat.add_zero, Nat.reduceAdd, Nat.reduceMul, Nat.reduceSub, xf_same, xq_ff, xq_fo, xf_1, xf_2, xs_1, xs_2, xs_same, xq_so, xj_1, xj_2, xj_same, xq_jo, xq_sa1, xq_same, xq_other, upd_s, oI_n, oI_s, xf_102_6 i1, xf_102_7 i1, xf_102_8 i1, xf_102_12 i1, a1]
  refine by_sw ?_
  simp (disch := first | exact Nat.ne_of_beq_eq_false rfl | exact rfl | omega) only [nI_add, xa_sub, xa_mul, pk_div, nm_mod, xa_shr, xa_and7, xa_and1, xa_and255, xa_by_and, nI_m1, Nat.add_sub_cancel, Nat.reducePow, Nat.zero_add, Nat.add_zero, Nat.reduceAdd, Nat.reduceMul, Nat.reduceSub, xf_same, xq_ff, xq_fo, xf_1, xf_2, xs_1, xs_2, xs_same, xq_so, xj_1, xj_2, xj_same, xq_jo, xq_sa1, xq_same, xq_other, upd_s, oI_n, oI_s, xv_0, xv_1, xv_2, xv_3, xm_p1, xm_p2, xq_fp, xq_fn, List.filter_nil, Nat.reduceBEq, Bool.not_true, Bool.not_false, Bool.and_true, Bool.and_false, Bool.false_and, Bool.true_and, if_true, if_false, Bool.false_eq_true, reduceIte, xc_i, xc_j, xc_r, xc_n, List.nil_append, List.cons_append, Option.toList_some, Option.toList_none, xf_102_6 i1, xf_102_7 i1, xf_102_8 i1, xf_102_12 i1, a1]
  refine xq_sw 356 (by decide) (by decide) ?_
  with_reducible refine xm_go_blk b_X12_typesOf_356 k_X12_typesOf_356 ?_
  refine by_aload_n rfl ?_
  refine by_getf cn_316 fl_12_34 (by first | exact rfl | assumption) (by decide) ?_
  refine by_iload_n rfl ?_
  refine by_aload_n rfl ?_
  simp (disch := first | exact Nat.ne_of_beq_eq_false rfl | exact rfl | omega) only [nI_add, xa_sub, xa_mul, pk_div, nm_mod, xa_shr, xa_and7, xa_and1, xa_and255, xa_by_and, nI_m1, Nat.add_sub_cancel, Nat.reducePow, Nat.zero_add, Nat.add_zero, Nat.reduceAdd, Nat.reduceMul, Nat.reduceSub, xf_same, xq_ff, xq_fo, xf_1, xf_2, xs_1, xs_2, xs_same, xq_so, xj_1, xj_2, xj_same, xq_jo, xq_sa1, xq_same, xq_other, upd_s, oI_n, oI_s, xv_0, xv_1, xv_2, xv_3, xm_p1, xm_p2, xq_fp, xq_fn, List.filter_nil, Nat.reduceBEq, Bool.not_true, Bool.not_false, Bool.and_true, Bool.and_false, Bool.false_and, Bool.true_and, if_true, if_false, Bool.false_eq_true, reduceIte, xc_i, xc_j, xc_r, xc_n, List.nil_append, List.cons_append, Option.toList_some, Option.toList_none, xf_102_6 i1, xf_102_7 i1, xf_102_8 i1, xf_102_12 i1, a1]
  refine by_inv0 cn_316 lk_12_246 (by rw [xe_cnt]; decide) is_273 np_273 cn_273 (by first | exact rfl | assumption) (Nat.le_of_ble_eq_true rfl) ?_
  refine sp_mopen i1 i4 (by omega) (fun h1 g1 g2 => ?_)
  have j1 : XF h1 := Fr_XF i1 g1 mg_fin
  with_reducible refine xm_go_blk b_X12_typesOf_365 k_X12_typesOf_365 ?_
  refine by_iast (by first | exact rfl | assumption | exact ps_1 hpp | exact ps_2 hpp | exact ps_3 hpp | exact ps_4 hpp | exact ps_5 hpp | exact ps_6 hpp | exact ps_7 hpp | exact ps_8 hpp | exact ps_9 hpp | exact ps_10 hpp | exact ps_11 hpp | exact ps_15 hpp | exact ps_16 hpp | exact ps_17 hpp | exact ps_18 hpp | exact ps_19 hpp | exact ps_21 hpp | exact ps_22 hpp | exact ps_23 hpp | exact ps_24 hpp) ⟨by omega, by omega⟩ ?_
  refine by_aload_n rfl ?_
  refine by_getf cn_316 fl_12_37 (by first | exact rfl | assumption) (by decide) ?_
  refine by_iload_n rfl ?_
  refine by_aload_n rfl ?_
  simp (disch := first | exact Nat.ne_of_beq_eq_false rfl | exact rfl | omega) only [nI_add, xa_sub, xa_mul, pk_div, nm_mod, xa_shr, xa_and7, xa_and1, xa_and255, xa_by_and, nI_m1, Nat.add_sub_cancel, Nat.reducePow, Nat.zero_add, Nat.add_zero, Nat.reduceAdd, Nat.reduceMul, Nat.reduceSub, xf_same, xq_ff, xq_fo, xf_1, xf_2, xs_1, xs_2, xs_same, xq_so, xj_1, xj_2, xj_same, xq_jo, xq_sa1, xq_same, xq_other, upd_s, oI_n, oI_s, xv_0, xv_1, xv_2, xv_3, xm_p1, xm_p2, xq_fp, xq_fn, List.filter_nil, Nat.reduceBEq, Bool.not_true, Bool.not_false, Bool.and_true, Bool.and_false, Bool.false_and, Bool.true_and, if_true, if_false, Bool.false_eq_true, reduceIte, xc_i, xc_j, xc_r, xc_n, List.nil_append, List.cons_append, Option.toList_some, Option.toList_none, xf_102_12 j1, xf_102_13 j1]
  refine by_inv0 cn_316 lk_12_246 (by rw [xe_cnt]; decide) is_273 np_273 cn_273 (by first | exact rfl | assumption) (Nat.le_of_ble_eq_true rfl) ?_
  have f1 : Fr mlR mgT h (xm_si h1 111 n (nI c)) := Fr_si (Fr_mg g1) (by decide)
  refine sp_mopen (Fr_XF i1 f1 mg_fin) (mgr_si (Or.inl rfl) g2) (by omega) (fun h2 g3 g4 => ?_)
  have f2 : Fr mlR mgT h h2 := Fr_tr f1 (Fr_mg g3) (fun _ q => q) (fun _ q => q)
  with_reducible refine xm_go_blk b_X12_typesOf_375 k_X12_typesOf_375 ?_
  refine by_iast (by first | exact rfl | assumption | exact ps_1 hpp | exact ps_2 hpp | exact ps_3 hpp | exact ps_4 hpp | exact ps_5 hpp | exact ps_6 hpp | exact ps_7 hpp | exact ps_8 hpp | exact ps_9 hpp | exact ps_10 hpp | exact ps_11 hpp | exact ps_15 hpp | exact ps_16 hpp | exact ps_17 hpp | exact ps_18 hpp | exact ps_19 hpp | exact ps_21 hpp | exact ps_22 hpp | exact ps_23 hpp | exact ps_24 hpp) ⟨by omega, by omega⟩ ?_
  refine by_iconst ci_1 ?_
  refine by_iret ry_316 (by first | rfl | assumption) ?_
  have f3 : Fr mlR mgT h (xm_si h2 112 n (nI (c + 1))) := Fr_si f2 (by decide)
  have e111 : ∀ m, (xm_si h2 112 n (nI (c + 1))).1 111 m = if m = n then nI c else h.1 111 m := by
    intro m
    rw [xq_so (by omega), g3.1 111 (by decide), xs_same]
    by_cases e : m = n
    · rw [if_pos e, e, upd_s]
    · rw [if_neg e, upd_o e, g1.1 111 (by decide)]
  have e112 : ∀ m, (xm_si h2 112 n (nI (c + 1))).1 112 m = if m = n then nI (c + 1) else h.1 112 m := by
    intro m
    rw [xs_same]
    by_cases e : m = n
    · rw [if_pos e, e, upd_s]
    · rw [if_neg e, upd_o e, g3.1 112 (by decide), xq_so (by omega), g1.1 112 (by decide)]
  refine hP.1 _ _ _ _ _ _ _ _ _ f3 (msI_new (s := c) (t := c + 1) hI hn hnL hl f3 (mgr_si (Or.inr rfl) g4) ?_ (tx_tr updN_tx updN_tx) (by omega) (fun _ => by rw [e111, e112, if_pos rfl, if_pos rfl]; exact ⟨rfl, rfl⟩) (fun m hm => by rw [e111, e112, if_neg hm, if_neg hm]; exact ⟨rfl, rfl⟩))
  refine tyS_add i5 (tx_tr updN_tx updN_tx) (fun t h1 h2 => ?_) (fun q hq => Or.inl hq) (fun q hq => hq) hnL hch (fun _ => ⟨by omega, by omega⟩) (fun f hf => ?_) (fun S T V hs ht hr v1 v2 v3 v4 => ⟨tvx V c [S n, T n], tvx_ok v1 (by intro a ha; simp only [List.mem_cons, List.not_mem_nil, or_false] at ha; rcases ha with rfl | rfl; exact hs n; exact ht n), fun t ht => tvx_o ht, fun t h1 h2 => ?_, tx_pd i5.2.1 v3 (fun t ht => tvx_o ht), fun _ => ?_⟩)
  · rcases (by omega : t = c ∨ t = c + 1) with rfl | rfl
    · rw [updN_o (by omega), updN_s]; exact ⟨by decide, fun q => absurd q (by decide)⟩
    · rw [updN_s]; exact ⟨by decide, fun q => absurd q (by decide)⟩
  · refine ⟨fun e => ?_, fun e => ?_, fun e => ?_, fun e => ?_, fun e => ?_, fun e => ?_, fun e => ?_, fun e => ?_, fun e => ?_, fun e => ?_⟩ <;> first | (exfalso; omega) | skip
  · rcases (by omega : t = c ∨ t = c + 1) with rfl | rfl
    · rw [updN_o (by omega), updN_s]; exact ⟨nofun, nofun, nofun⟩
    · rw [updN_s]; exact ⟨nofun, nofun, nofun⟩
  · have e := tvx_n (V := V) (c := c) (i := 0) (g := [S n, T n])
    have e2 := tvx_n (V := V) (c := c) (i := 1) (g := [S n, T n])
    rw [Nat.add_zero] at e
    rw [e, e2]
    exact ⟨rfl, rfl⟩
theorem mty_10 (hI : msI h N cd fi se nu L c k l r rt es src tgt) (hn : n < N) (hnL : n ∉ L) (hl : L.length < 2000) (hch : ∀ m ∈ L, (cd m ≤ 6 → fi m ≠ n) ∧ (cd m ≤ 2 → se m ≠ n)) (hc : cd n = 10) (hP : mlP N n cd fi se nu L h post) : xm_T (XE sc) (d + 4) 316 [.ref 102, .int (nI n)] h post := by
  have hI0 := hI
  obtain ⟨i1, i3, i4, i5, i6, i7, i8, i9, i10, i11, i12⟩ := hI0
  obtain ⟨a1, a2, a3, a5, a7⟩ := i3 n hn
  rw [hc] at a1
  refine xq_in rfl ?_
  simp only [xq_a0, xq_aI, xq_aJ, xq_aR, Nat.reduceAdd]
  with_reducible refine xm_go_blk b_X12_typesOf_0 k_X12_typesOf_0 ?_
  refine by_aload_n rfl ?_
  refine by_getf cn_316 fl_12_19 (by first | exact rfl | assumption) (by decide) ?_
  refine by_iload_n rfl ?_
  simp (disch := first | exact Nat.ne_of_beq_eq_false rfl | exact rfl | omega) only [nI_add, xa_sub, xa_mul, pk_div, nm_mod, xa_shr, xa_and7, xa_and1, xa_and255, xa_by_and, nI_m1, Nat.add_sub_cancel, Nat.reducePow, Nat.zero_add, Nat.add_zero, Nat.reduceAdd, Nat.reduceMul, Nat.reduceSub, xf_same, xq_ff, xq_fo, xf_1, xf_2, xs_1, xs_2, xs_same, xq_so, xj_1, xj_2, xj_same, xq_jo, xq_sa1, xq_same, xq_other, upd_s, oI_n, oI_s, xf_102_6 i1, xf_102_7 i1, xf_102_8 i1, xf_102_12 i1, a1]
  first | refine by_iald (by first | exact rfl | assumption | exact ps_1 hpp | exact ps_2 hpp | exact ps_3 hpp | exact ps_4 hpp | exact ps_5 hpp | exact ps_6 hpp | exact ps_7 hpp | exact ps_8 hpp | exact ps_9 hpp | exact ps_10 hpp | exact ps_11 hpp | exact ps_15 hpp | exact ps_16 hpp | exact ps_17 hpp | exact ps_18 hpp | exact ps_19 hpp | exact ps_21 hpp | exact ps_22 hpp | exact ps_23 hpp | exact ps_24 hpp) ⟨by omega, by omega⟩ ?_ | refine by_tald rfl rfl ⟨by omega, by omega⟩ ?_
  refine by_istore_n (by rw [ml_316]; decide) ?_
  refine by_aload_n rfl ?_
  refine by_getf cn_316 fl_12_22 (by first | exact rfl | assumption) (by decide) ?_
  refine by_iload_n rfl ?_
  simp (disch := first | exact Nat.ne_of_beq_eq_false rfl | exact rfl | omega) only [nI_add, xa_sub, xa_mul, pk_div, nm_mod, xa_shr, xa_and7, xa_and1, xa_and255, xa_by_and, nI_m1, Nat.add_sub_cancel, Nat.reducePow, Nat.zero_add, Nat.add_zero, Nat.reduceAdd, Nat.reduceMul, Nat.reduceSub, xf_same, xq_ff, xq_fo, xf_1, xf_2, xs_1, xs_2, xs_same, xq_so, xj_1, xj_2, xj_same, xq_jo, xq_sa1, xq_same, xq_other, upd_s, oI_n, oI_s, xf_102_6 i1, xf_102_7 i1, xf_102_8 i1, xf_102_12 i1, a1]
  first | refine by_iald (by first | exact rfl | assumption | exact ps_1 hpp | exact ps_2 hpp | exact ps_3 hpp | exact ps_4 hpp | exact ps_5 hpp | exact ps_6 hpp | exact ps_7 hpp | exact ps_8 hpp | exact ps_9 hpp | exact ps_10 hpp | exact ps_11 hpp | exact ps_15 hpp | exact ps_16 hpp | exact ps_17 hpp | exact ps_18 hpp | exact ps_19 hpp | exact ps_21 hpp | exact ps_22 hpp | exact ps_23 hpp | exact ps_24 hpp) ⟨by omega, by omega⟩ ?_ | refine by_tald rfl rfl ⟨by omega, by omega⟩ ?_
  refine by_istore_n (by rw [ml_316]; decide) ?_
  refine by_aload_n rfl ?_
  refine by_getf cn_316 fl_12_16 (by first | exact rfl | assumption) (by decide) ?_
  refine by_iload_n rfl ?_
  simp (disch := first | exact Nat.ne_of_beq_eq_false rfl | exact rfl | omega) only [nI_add, xa_sub, xa_mul, pk_div, nm_mod, xa_shr, xa_and7, xa_and1, xa_and255, xa_by_and, nI_m1, Nat.add_sub_cancel, Nat.reducePow, Nat.zero_add, Nat.add_zero, Nat.reduceAdd, Nat.reduceMul, Nat.reduceSub, xf_same, xq_ff, xq_fo, xf_1, xf_2, xs_1, xs_2, xs_same, xq_so, xj_1, xj_2, xj_same, xq_jo, xq_sa1, xq_same, xq_other, upd_s, oI_n, oI_s, xf_102_6 i1, xf_102_7 i1, xf_102_8 i1, xf_102_12 i1, a1]
  first | refine by_iald (by first | exact rfl | assumption | exact ps_1 hpp | exact ps_2 hpp | exact ps_3 hpp | exact ps_4 hpp | exact ps_5 hpp | exact ps_6 hpp | exact ps_7 hpp | exact ps_8 hpp | exact ps_9 hpp | exact ps_10 hpp | exact ps_11 hpp | exact ps_15 hpp | exact ps_16 hpp | exact ps_17 hpp | exact ps_18 hpp | exact ps_19 hpp | exact ps_21 hpp | exact ps_22 hpp | exact ps_23 hpp | exact ps_24 hpp) ⟨by omega, by omega⟩ ?_ | refine by_tald rfl rfl ⟨by omega, by omega⟩ ?_
  simp (disch := first | exact Nat.ne_of_beq_eq_false rfl | exact rfl | omega) only [nI_add, xa_sub, xa_mul, pk_div, nm_mod, xa_shr, xa_and7, xa_and1, xa_and255, xa_by_and, nI_m1, Nat.add_sub_cancel, Nat.reducePow, Nat.zero_add, Nat.add_zero, Nat.reduceAdd, Nat.reduceMul, Nat.reduceSub, xf_same, xq_ff, xq_fo, xf_1, xf_2, xs_1, xs_2, xs_same, xq_so, xj_1, xj_2, xj_same, xq_jo, xq_sa1, xq_same, xq_other, upd_s, oI_n, oI_s, xf_102_6 i1, xf_102_7 i1, xf_102_8 i1, xf_102_12 i1, a1]
  refine by_sw ?_
  simp (disch := first | exact Nat.ne_of_beq_eq_false rfl | exact rfl | omega) only [nI_add, xa_sub, xa_mul, pk_div, nm_mod, xa_shr, xa_and7, xa_and1, xa_and255, xa_by_and, nI_m1, Nat.add_sub_cancel, Nat.reducePow, Nat.zero_add, Nat.add_zero, Nat.reduceAdd, Nat.reduceMul, Nat.reduceSub, xf_same, xq_ff, xq_fo, xf_1, xf_2, xs_1, xs_2, xs_same, xq_so, xj_1, xj_2, xj_same, xq_jo, xq_sa1, xq_same, xq_other, upd_s, oI_n, oI_s, xv_0, xv_1, xv_2, xv_3, xm_p1, xm_p2, xq_fp, xq_fn, List.filter_nil, Nat.reduceBEq, Bool.not_true, Bool.not_false, Bool.and_true, Bool.and_false, Bool.false_and, Bool.true_and, if_true, if_false, Bool.false_eq_true, reduceIte, xc_i, xc_j, xc_r, xc_n, List.nil_append, List.cons_append, Option.toList_some, Option.toList_none, xf_102_6 i1, xf_102_7 i1, xf_102_8 i1, xf_102_12 i1, a1]
  refine xq_sw 356 (by decide) (by decide) ?_
  with_reducible refine xm_go_blk b_X12_typesOf_356 k_X12_typesOf_356 ?_
  refine by_aload_n rfl ?_
  refine by_getf cn_316 fl_12_34 (by first | exact rfl | assumption) (by decide) ?_
  refine by_iload_n rfl ?_
  refine by_aload_n rfl ?_
  simp (disch := first | exact Nat.ne_of_beq_eq_false rfl | exact rfl | omega) only [nI_add, xa_sub, xa_mul, pk_div, nm_mod, xa_shr, xa_and7, xa_and1, xa_and255, xa_by_and, nI_m1, Nat.add_sub_cancel, Nat.reducePow, Nat.zero_add, Nat.add_zero, Nat.reduceAdd, Nat.reduceMul, Nat.reduceSub, xf_same, xq_ff, xq_fo, xf_1, xf_2, xs_1, xs_2, xs_same, xq_so, xj_1, xj_2, xj_same, xq_jo, xq_sa1, xq_same, xq_other, upd_s, oI_n, oI_s, xv_0, xv_1, xv_2, xv_3, xm_p1, xm_p2, xq_fp, xq_fn, List.filter_nil, Nat.reduceBEq, Bool.not_true, Bool.not_false, Bool.and_true, Bool.and_false, Bool.false_and, Bool.true_and, if_true, if_false, Bool.false_eq_true, reduceIte, xc_i, xc_j, xc_r, xc_n, List.nil_append, List.cons_append, Option.toList_some, Option.toList_none, xf_102_6 i1, xf_102_7 i1, xf_102_8 i1, xf_102_12 i1, a1]
  refine by_inv0 cn_316 lk_12_246 (by rw [xe_cnt]; decide) is_273 np_273 cn_273 (by first | exact rfl | assumption) (Nat.le_of_ble_eq_true rfl) ?_
  refine sp_mopen i1 i4 (by omega) (fun h1 g1 g2 => ?_)
  have j1 : XF h1 := Fr_XF i1 g1 mg_fin
  with_reducible refine xm_go_blk b_X12_typesOf_365 k_X12_typesOf_365 ?_
  refine by_iast (by first | exact rfl | assumption | exact ps_1 hpp | exact ps_2 hpp | exact ps_3 hpp | exact ps_4 hpp | exact ps_5 hpp | exact ps_6 hpp | exact ps_7 hpp | exact ps_8 hpp | exact ps_9 hpp | exact ps_10 hpp | exact ps_11 hpp | exact ps_15 hpp | exact ps_16 hpp | exact ps_17 hpp | exact ps_18 hpp | exact ps_19 hpp | exact ps_21 hpp | exact ps_22 hpp | exact ps_23 hpp | exact ps_24 hpp) ⟨by omega, by omega⟩ ?_
  refine by_aload_n rfl ?_
  refine by_getf cn_316 fl_12_37 (by first | exact rfl | assumption) (by decide) ?_
  refine by_iload_n rfl ?_
  refine by_aload_n rfl ?_
  simp (disch := first | exact Nat.ne_of_beq_eq_false rfl | exact rfl | omega) only [nI_add, xa_sub, xa_mul, pk_div, nm_mod, xa_shr, xa_and7, xa_and1, xa_and255, xa_by_and, nI_m1, Nat.add_sub_cancel, Nat.reducePow, Nat.zero_add, Nat.add_zero, Nat.reduceAdd, Nat.reduceMul, Nat.reduceSub, xf_same, xq_ff, xq_fo, xf_1, xf_2, xs_1, xs_2, xs_same, xq_so, xj_1, xj_2, xj_same, xq_jo, xq_sa1, xq_same, xq_other, upd_s, oI_n, oI_s, xv_0, xv_1, xv_2, xv_3, xm_p1, xm_p2, xq_fp, xq_fn, List.filter_nil, Nat.reduceBEq, Bool.not_true, Bool.not_false, Bool.and_true, Bool.and_false, Bool.false_and, Bool.true_and, if_true, if_false, Bool.false_eq_true, reduceIte, xc_i, xc_j, xc_r, xc_n, List.nil_append, List.cons_append, Option.toList_some, Option.toList_none, xf_102_12 j1, xf_102_13 j1]
  refine by_inv0 cn_316 lk_12_246 (by rw [xe_cnt]; decide) is_273 np_273 cn_273 (by first | exact rfl | assumption) (Nat.le_of_ble_eq_true rfl) ?_
  have f1 : Fr mlR mgT h (xm_si h1 111 n (nI c)) := Fr_si (Fr_mg g1) (by decide)
  refine sp_mopen (Fr_XF i1 f1 mg_fin) (mgr_si (Or.inl rfl) g2) (by omega) (fun h2 g3 g4 => ?_)
  have f2 : Fr mlR mgT h h2 := Fr_tr f1 (Fr_mg g3) (fun _ q => q) (fun _ q => q)
  with_reducible refine xm_go_blk b_X12_typesOf_375 k_X12_typesOf_375 ?_
  refine by_iast (by first | exact rfl | assumption | exact ps_1 hpp | exact ps_2 hpp | exact ps_3 hpp | exact ps_4 hpp | exact ps_5 hpp | exact ps_6 hpp | exact ps_7 hpp | exact ps_8 hpp | exact ps_9 hpp | exact ps_10 hpp | exact ps_11 hpp | exact ps_15 hpp | exact ps_16 hpp | exact ps_17 hpp | exact ps_18 hpp | exact ps_19 hpp | exact ps_21 hpp | exact ps_22 hpp | exact ps_23 hpp | exact ps_24 hpp) ⟨by omega, by omega⟩ ?_
  refine by_iconst ci_1 ?_
  refine by_iret ry_316 (by first | rfl | assumption) ?_
  have f3 : Fr mlR mgT h (xm_si h2 112 n (nI (c + 1))) := Fr_si f2 (by decide)
  have e111 : ∀ m, (xm_si h2 112 n (nI (c + 1))).1 111 m = if m = n then nI c else h.1 111 m := by
    intro m
    rw [xq_so (by omega), g3.1 111 (by decide), xs_same]
    by_cases e : m = n
    · rw [if_pos e, e, upd_s]
    · rw [if_neg e, upd_o e, g1.1 111 (by decide)]
  have e112 : ∀ m, (xm_si h2 112 n (nI (c + 1))).1 112 m = if m = n then nI (c + 1) else h.1 112 m := by
    intro m
    rw [xs_same]
    by_cases e : m = n
    · rw [if_pos e, e, upd_s]
    · rw [if_neg e, upd_o e, g3.1 112 (by decide), xq_so (by omega), g1.1 112 (by decide)]
  refine hP.1 _ _ _ _ _ _ _ _ _ f3 (msI_new (s := c) (t := c + 1) hI hn hnL hl f3 (mgr_si (Or.inr rfl) g4) ?_ (tx_tr updN_tx updN_tx) (by omega) (fun _ => by rw [e111, e112, if_pos rfl, if_pos rfl]; exact ⟨rfl, rfl⟩) (fun m hm => by rw [e111, e112, if_neg hm, if_neg hm]; exact ⟨rfl, rfl⟩))
  refine tyS_add i5 (tx_tr updN_tx updN_tx) (fun t h1 h2 => ?_) (fun q hq => Or.inl hq) (fun q hq => hq) hnL hch (fun _ => ⟨by omega, by omega⟩) (fun f hf => ?_) (fun S T V hs ht hr v1 v2 v3 v4 => ⟨tvx V c [S n, T n], tvx_ok v1 (by intro a ha; simp only [List.mem_cons, List.not_mem_nil, or_false] at ha; rcases ha with rfl | rfl; exact hs n; exact ht n), fun t ht => tvx_o ht, fun t h1 h2 => ?_, tx_pd i5.2.1 v3 (fun t ht => tvx_o ht), fun _ => ?_⟩)
  · rcases (by omega : t = c ∨ t = c + 1) with rfl | rfl
    · rw [updN_o (by omega), updN_s]; exact ⟨by decide, fun q => absurd q (by decide)⟩
    · rw [updN_s]; exact ⟨by decide, fun q => absurd q (by decide)⟩
  · refine ⟨fun e => ?_, fun e => ?_, fun e => ?_, fun e => ?_, fun e => ?_, fun e => ?_, fun e => ?_, fun e => ?_, fun e => ?_, fun e => ?_⟩ <;> first | (exfalso; omega) | skip
  · rcases (by omega : t = c ∨ t = c + 1) with rfl | rfl
    · rw [updN_o (by omega), updN_s]; exact ⟨nofun, nofun, nofun⟩
    · rw [updN_s]; exact ⟨nofun, nofun, nofun⟩
  · have e := tvx_n (V := V) (c := c) (i := 0) (g := [S n, T n])
    have e2 := tvx_n (V := V) (c := c) (i := 1) (g := [S n, T n])
    rw [Nat.add_zero] at e
    rw [e, e2]
    exact ⟨rfl, rfl⟩
end RUL
