/-! ===== Finder: rules of nodes ===== -/
def swt (lo hi dflt : Int) (offs : Array Int) (x : Int32) : Int := if x.toInt < lo ∨ hi < x.toInt then dflt else (offs[(x.toInt - lo).toNat]?).getD 0
def swo (lo hi : Int) (offs : Array Int) (x : Int32) : Bool := decide (x.toInt < lo ∨ hi < x.toInt) || (offs[(x.toInt - lo).toNat]?).isSome
theorem xq_sw {pc : Nat} {lo hi dflt : Int} {offs : Array Int} {x : Int32} {f : Nat → Prop} (t : Nat) (ho : swo lo hi offs x = true) (ht : (pc : Int) + swt lo hi dflt offs x = (t : Int)) (H : f t) : xm_sw pc lo hi dflt offs x f := by
  unfold swt at ht
  unfold swo at ho
  refine ⟨fun q => ?_, fun q => ?_⟩
  · rw [if_pos q] at ht
    exact by_to t ht H
  · rw [if_neg q] at ht
    have hs : (offs[(x.toInt - lo).toNat]?).isSome = true := by
      rcases Bool.or_eq_true _ _ ▸ ho with z | z
      · exact absurd (of_decide_eq_true z) q
      · exact z
    obtain ⟨o, ho⟩ := Option.isSome_iff_exists.mp hs
    rw [ho] at ht ⊢
    exact by_to t ht H
/-- nodes in the class's rows -/
def ndF (h : xm_H) (pp N : Nat) (cd fi se nu : Nat → Nat) : Prop := ∀ n, n < N → h.1 (pp + 1) n = nI (cd n) ∧ cd n ≤ 12 ∧ (cd n ≤ 6 → h.1 (pp + 2) n = nI (fi n) ∧ fi n < N) ∧ (6 < cd n → h.1 (pp + 2) n = -1) ∧ (cd n ≤ 2 → h.1 (pp + 3) n = nI (se n) ∧ se n < N) ∧ (2 < cd n → h.1 (pp + 3) n = -1) ∧ (cd n = 12 → h.1 (pp + 4) n = nI (nu n) ∧ nu n ≤ 167)
def shT (s m : Nat) : Nat := match s with
  | 1 => 1
  | 2 => 3 + m
  | 3 => 4 + m
  | 4 => 5 + m
  | 5 => 6 + m
  | 6 => 4
  | 7 => 10 + m
  | 8 => 14 + m
  | 9 => 18 + m
  | 10 => 22 + m
  | _ => 0
/-- Finder's fixed terms -/
def fxK (t : Nat) : Nat := if t = 0 then 1 else if t = 1 then 2 else 3
def fxL (t : Nat) : Nat := if t ≤ 1 then 0 else if t < 10 then t - 1 else if t < 18 then 1 else if t < 22 then t - 14 else 4
def fxR (t : Nat) : Nat := if t ≤ 1 then 0 else if t < 10 then t - 1 else if t < 14 then t - 6 else if t < 18 then t - 9 else if t < 22 then t - 13 else t - 18
def fxA (h : xm_H) : Prop := ∀ t, t < 26 → h.1 16 t = nI ((fxK t + 3) % 4) ∧ (2 ≤ fxK t → h.1 17 t = nI (fxL t) ∧ h.1 18 t = nI (fxR t))
theorem fx_fn {h : xm_H} {c : Nat} {k l r : Nat → Nat} (hA : fnA h c k l r) (hx : tx 26 c fxK fxL fxR k l r) : fxA h := by
  intro t ht
  obtain ⟨e1, e2, e3⟩ := hx.2 t ht
  obtain ⟨a1, a2, a3⟩ := hA t (Nat.lt_of_lt_of_le ht hx.1)
  rw [e1] at a1
  refine ⟨a1, fun q => ?_⟩
  obtain ⟨b1, b2, _⟩ := a3 (by rw [e1]; exact q)
  rw [e2] at b1
  rw [e3] at b2
  exact ⟨b1, b2⟩
def tsI (h : xm_H) (pp N : Nat) (cd fi se nu : Nat → Nat) (L : List Nat) (c : Nat) (k l r rt : Nat → Nat) (es : List (Nat × Nat)) (src tgt : Nat → Nat) : Prop :=
  XF h ∧ (pp = 52 ∨ pp = 77) ∧ ndF h pp N cd fi se nu ∧ gr h c k l r rt es ∧ tyS cd fi se nu L c k l r es src tgt ∧ (∀ n ∈ L, n < N ∧ (cd n ≠ 11 → h.1 (pp + 6) n = nI (src n) ∧ h.1 (pp + 7) n = nI (tgt n))) ∧ c ≤ 26 + 7 * L.length ∧ L.length ≤ 2000 ∧ N ≤ 2000 ∧ (∀ s m, s ≤ 10 → m < 4 → ty_den c k l r (ty_shp s m) (shT s m)) ∧ (26 ≤ c ∧ ∀ n ∈ L, cd n = 11 → h.1 (pp + 6) n = -1 ∧ h.1 (pp + 7) n = -1) ∧ tx 26 c fxK fxL fxR k l r
def rlR (pp : Nat) : List Nat := [16, 17, 18, 19, 20, 21, pp + 6, pp + 7]
theorem rl_fin : xt_fin.all (fun q => !(grT.contains (q.1, q.2.1))) = true := by decide +kernel
theorem tsI_new {h h' : xm_H} {pp N : Nat} {cd fi se nu : Nat → Nat} {L : List Nat} {c c' : Nat} {k l r rt k' l' r' rt' : Nat → Nat} {es es' : List (Nat × Nat)} {src tgt : Nat → Nat} {n s t : Nat} (hI : tsI h pp N cd fi se nu L c k l r rt es src tgt) (hn : n < N) (hnL : n ∉ L) (hl : L.length < 2000) (hf : Fr (rlR pp) grT h h') (hg : gr h' c' k' l' r' rt' es') (hS : tyS cd fi se nu (L ++ [n]) c' k' l' r' es' (updN src n s) (updN tgt n t)) (he : tx c c' k l r k' l' r') (hc : c' ≤ c + 7)
    (h6 : cd n ≠ 11 → h'.1 (pp + 6) n = nI s ∧ h'.1 (pp + 7) n = nI t) (ho : ∀ m, m ≠ n → h'.1 (pp + 6) m = h.1 (pp + 6) m ∧ h'.1 (pp + 7) m = h.1 (pp + 7) m) (h11 : cd n = 11 → h'.1 (pp + 6) n = -1 ∧ h'.1 (pp + 7) n = -1 := by intro z; exfalso; omega) : tsI h' pp N cd fi se nu (L ++ [n]) c' k' l' r' rt' es' (updN src n s) (updN tgt n t) := by
  obtain ⟨i1, i2, i3, i4, i5, i6, i7, i8, i9, i10, i11⟩ := hI
  have hce := he.1
  refine ⟨Fr_XF i1 hf rl_fin, i2, fun m hm => ?_, hg, hS, fun m hm => ?_, by simp only [List.length_append, List.length_cons, List.length_nil]; omega, by simp only [List.length_append, List.length_cons, List.length_nil]; omega, i9, fun s m h1 h2 => ty_den_mono he.1 he.2 _ _ (i10 s m h1 h2), ⟨by omega, fun m hm e => ?_⟩, tx_tr i11.2 he⟩
  · have e1 : h'.1 (pp + 1) = h.1 (pp + 1) := hf.1 _ (by simp [rlR] <;> omega)
    have e2 : h'.1 (pp + 2) = h.1 (pp + 2) := hf.1 _ (by simp [rlR] <;> omega)
    have e3 : h'.1 (pp + 3) = h.1 (pp + 3) := hf.1 _ (by simp [rlR] <;> omega)
    have e4 : h'.1 (pp + 4) = h.1 (pp + 4) := hf.1 _ (by simp [rlR] <;> omega)
    rw [e1, e2, e3, e4]
    exact i3 m hm
  · rcases List.mem_append.mp hm with q | q
    · have hmn : m ≠ n := fun z => hnL (by rw [← z]; exact q)
      obtain ⟨j1, j2⟩ := i6 m q
      obtain ⟨o1, o2⟩ := ho m hmn
      exact ⟨j1, fun e => by rw [o1, o2, updN_o hmn, updN_o hmn]; exact j2 e⟩
    · rw [List.mem_singleton.mp q]
      exact ⟨hn, fun e => by rw [updN_s, updN_s]; exact h6 e⟩
  · rcases List.mem_append.mp hm with q | q
    · have hmn : m ≠ n := fun z => hnL (by rw [← z]; exact q)
      rw [(ho m hmn).1, (ho m hmn).2]
      exact i11.1.2 m q e
    · rw [List.mem_singleton.mp q] at e ⊢
      exact h11 e
section RUL
variable {sc : xm_Sc} {d pp N n : Nat} {cd fi se nu : Nat → Nat} {L : List Nat} {c : Nat} {k l r rt : Nat → Nat} {es : List (Nat × Nat)} {src tgt : Nat → Nat} {h : xm_H} {post : xm_Po}
/-- what the rule of a node must give -/
def rlP (pp N n : Nat) (cd fi se nu : Nat → Nat) (L : List Nat) (h : xm_H) (post : xm_Po) : Prop :=
  (∀ h' c' k' l' r' rt' es' src' tgt', Fr (rlR pp) grT h h' → tsI h' pp N cd fi se nu (L ++ [n]) c' k' l' r' rt' es' src' tgt' → post (some (.int (nI 1))) h') ∧ ∀ h', Fr (rlR pp) grT h h' → fxA h' → (∀ S T, ¬ ty_sol cd fi se nu (L ++ [n]) S T) → post (some (.int (nI 0))) h'
/-- two rows more, at one node -/
theorem rl_set {h1 : xm_H} {s t : Int32} (hpp : pp = 52 ∨ pp = 77) (hF : XF h1) (hn : n < 2000) (hp : post none (xm_si (xm_si h1 (pp + 6) n s) (pp + 7) n t)) : xm_T (XE sc) (d + 1) 47 [.ref pp, .int (nI n), .int s, .int t] h1 post := by
  refine xq_in rfl ?_
  simp only [xq_a0, xq_aI, xq_aJ, xq_aR, Nat.reduceAdd]
  with_reducible refine xm_go_blk b_X1_set_0 k_X1_set_0 ?_
  refine by_aload_n rfl ?_
  refine by_getf cn_47 fl_1_56 (by first | exact rfl | assumption | exact ps_0 hpp) (by decide) ?_
  refine by_iload_n rfl ?_
  refine by_iload_n rfl ?_
  simp (disch := first | exact Nat.ne_of_beq_eq_false rfl | omega) only [nI_add, xa_sub, xa_mul, pk_div, nm_mod, xa_shr, xa_and7, xa_and1, xa_and255, xa_by_and, nI_m1, Nat.add_sub_cancel, Nat.reducePow, Nat.zero_add, Nat.add_zero, Nat.reduceAdd, Nat.reduceMul, Nat.reduceSub, xf_same, xq_ff, xq_fo, xf_1, xf_2, xs_1, xs_2, xs_same, xq_so, xj_1, xj_2, xj_same, xq_jo, xq_sa1, xq_same, xq_other, upd_s, oI_n, oI_s, pf_6 hF hpp, pf_7 hF hpp]
  refine by_iast (by first | exact rfl | assumption | exact ps_1 hpp | exact ps_2 hpp | exact ps_3 hpp | exact ps_4 hpp | exact ps_5 hpp | exact ps_6 hpp | exact ps_7 hpp | exact ps_8 hpp | exact ps_9 hpp | exact ps_10 hpp | exact ps_11 hpp | exact ps_15 hpp | exact ps_16 hpp | exact ps_17 hpp | exact ps_18 hpp | exact ps_19 hpp | exact ps_21 hpp | exact ps_22 hpp | exact ps_23 hpp | exact ps_24 hpp) ⟨by omega, by omega⟩ ?_
  refine by_aload_n rfl ?_
  refine by_getf cn_47 fl_1_63 (by first | exact rfl | assumption | exact ps_0 hpp) (by decide) ?_
  refine by_iload_n rfl ?_
  refine by_iload_n rfl ?_
  simp (disch := first | exact Nat.ne_of_beq_eq_false rfl | omega) only [nI_add, xa_sub, xa_mul, pk_div, nm_mod, xa_shr, xa_and7, xa_and1, xa_and255, xa_by_and, nI_m1, Nat.add_sub_cancel, Nat.reducePow, Nat.zero_add, Nat.add_zero, Nat.reduceAdd, Nat.reduceMul, Nat.reduceSub, xf_same, xq_ff, xq_fo, xf_1, xf_2, xs_1, xs_2, xs_same, xq_so, xj_1, xj_2, xj_same, xq_jo, xq_sa1, xq_same, xq_other, upd_s, oI_n, oI_s, pf_6 hF hpp, pf_7 hF hpp]
  refine by_iast (by first | exact rfl | assumption | exact ps_1 hpp | exact ps_2 hpp | exact ps_3 hpp | exact ps_4 hpp | exact ps_5 hpp | exact ps_6 hpp | exact ps_7 hpp | exact ps_8 hpp | exact ps_9 hpp | exact ps_10 hpp | exact ps_11 hpp | exact ps_15 hpp | exact ps_16 hpp | exact ps_17 hpp | exact ps_18 hpp | exact ps_19 hpp | exact ps_21 hpp | exact ps_22 hpp | exact ps_23 hpp | exact ps_24 hpp) ⟨by omega, by omega⟩ ?_
  refine by_ret ry_47 ?_
  exact hp
theorem rl_ss {h1 : xm_H} {s t : Int32} {m : Nat} (hm : m ≠ n) : (xm_si (xm_si h1 (pp + 6) n s) (pp + 7) n t).1 (pp + 6) m = h1.1 (pp + 6) m ∧ (xm_si (xm_si h1 (pp + 6) n s) (pp + 7) n t).1 (pp + 7) m = h1.1 (pp + 7) m := by
  constructor
  · rw [xq_so (by omega), xs_same, upd_o hm]
  · rw [xs_same, upd_o hm, xq_so (by omega)]
theorem rl_sn {h1 : xm_H} {s t : Int32} : (xm_si (xm_si h1 (pp + 6) n s) (pp + 7) n t).1 (pp + 6) n = s ∧ (xm_si (xm_si h1 (pp + 6) n s) (pp + 7) n t).1 (pp + 7) n = t := by
  constructor
  · rw [xq_so (by omega), xs_same, upd_s]
  · rw [xs_same, upd_s]
/-- HIDDEN -/
theorem rl_11 (hI : tsI h pp N cd fi se nu L c k l r rt es src tgt) (hn : n < N) (hnL : n ∉ L) (hl : L.length < 2000) (hch : ∀ m ∈ L, (cd m ≤ 6 → fi m ≠ n) ∧ (cd m ≤ 2 → se m ≠ n)) (hc : cd n = 11) (hP : rlP pp N n cd fi se nu L h post) : xm_T (XE sc) (d + 4) 46 [.ref 15, .ref pp, .int (nI n)] h post := by
  have hI0 := hI
  obtain ⟨i1, hpp, i3, i4, i5, i6, i7, i8, i9, i10, i11⟩ := hI0
  obtain ⟨a1, a2, a3, a4, a5, a6, a7⟩ := i3 n hn
  have b2 := a4 (by omega)
  have b3 := a6 (by omega)
  rw [hc] at a1
  refine xq_in rfl ?_
  simp only [xq_a0, xq_aI, xq_aJ, xq_aR, Nat.reduceAdd]
  with_reducible refine xm_go_blk b_X1_rule_0 k_X1_rule_0 ?_
  refine by_aload_n rfl ?_
  refine by_getf cn_46 fl_1_70 (by first | exact rfl | assumption | exact ps_0 hpp) (by decide) ?_
  refine by_iload_n rfl ?_
  simp (disch := first | exact Nat.ne_of_beq_eq_false rfl | omega) only [nI_add, xa_sub, xa_mul, pk_div, nm_mod, xa_shr, xa_and7, xa_and1, xa_and255, xa_by_and, nI_m1, Nat.add_sub_cancel, Nat.reducePow, Nat.zero_add, Nat.add_zero, Nat.reduceAdd, Nat.reduceMul, Nat.reduceSub, xf_same, xq_ff, xq_fo, xf_1, xf_2, xs_1, xs_2, xs_same, xq_so, xj_1, xj_2, xj_same, xq_jo, xq_sa1, xq_same, xq_other, upd_s, oI_n, oI_s, pf_1 i1 hpp, pf_2 i1 hpp, pf_3 i1 hpp, a1, b2, b3]
  first | refine by_iald (by first | exact rfl | assumption | exact ps_1 hpp | exact ps_2 hpp | exact ps_3 hpp | exact ps_4 hpp | exact ps_5 hpp | exact ps_6 hpp | exact ps_7 hpp | exact ps_8 hpp | exact ps_9 hpp | exact ps_10 hpp | exact ps_11 hpp | exact ps_15 hpp | exact ps_16 hpp | exact ps_17 hpp | exact ps_18 hpp | exact ps_19 hpp | exact ps_21 hpp | exact ps_22 hpp | exact ps_23 hpp | exact ps_24 hpp) ⟨by omega, by omega⟩ ?_ | refine by_tald rfl rfl ⟨by omega, by omega⟩ ?_
  refine by_istore_n (by rw [ml_46]; decide) ?_
  refine by_aload_n rfl ?_
  refine by_getf cn_46 fl_1_73 (by first | exact rfl | assumption | exact ps_0 hpp) (by decide) ?_
  refine by_iload_n rfl ?_
  simp (disch := first | exact Nat.ne_of_beq_eq_false rfl | omega) only [nI_add, xa_sub, xa_mul, pk_div, nm_mod, xa_shr, xa_and7, xa_and1, xa_and255, xa_by_and, nI_m1, Nat.add_sub_cancel, Nat.reducePow, Nat.zero_add, Nat.add_zero, Nat.reduceAdd, Nat.reduceMul, Nat.reduceSub, xf_same, xq_ff, xq_fo, xf_1, xf_2, xs_1, xs_2, xs_same, xq_so, xj_1, xj_2, xj_same, xq_jo, xq_sa1, xq_same, xq_other, upd_s, oI_n, oI_s, pf_1 i1 hpp, pf_2 i1 hpp, pf_3 i1 hpp, a1, b2, b3]
  first | refine by_iald (by first | exact rfl | assumption | exact ps_1 hpp | exact ps_2 hpp | exact ps_3 hpp | exact ps_4 hpp | exact ps_5 hpp | exact ps_6 hpp | exact ps_7 hpp | exact ps_8 hpp | exact ps_9 hpp | exact ps_10 hpp | exact ps_11 hpp | exact ps_15 hpp | exact ps_16 hpp | exact ps_17 hpp | exact ps_18 hpp | exact ps_19 hpp | exact ps_21 hpp | exact ps_22 hpp | exact ps_23 hpp | exact ps_24 hpp) ⟨by omega, by omega⟩ ?_ | refine by_tald rfl rfl ⟨by omega, by omega⟩ ?_
  refine by_istore (by rw [ml_46]; decide) ?_
  refine by_aload_n rfl ?_
  refine by_getf cn_46 fl_1_53 (by first | exact rfl | assumption | exact ps_0 hpp) (by decide) ?_
  refine by_iload_n rfl ?_
  simp (disch := first | exact Nat.ne_of_beq_eq_false rfl | omega) only [nI_add, xa_sub, xa_mul, pk_div, nm_mod, xa_shr, xa_and7, xa_and1, xa_and255, xa_by_and, nI_m1, Nat.add_sub_cancel, Nat.reducePow, Nat.zero_add, Nat.add_zero, Nat.reduceAdd, Nat.reduceMul, Nat.reduceSub, xf_same, xq_ff, xq_fo, xf_1, xf_2, xs_1, xs_2, xs_same, xq_so, xj_1, xj_2, xj_same, xq_jo, xq_sa1, xq_same, xq_other, upd_s, oI_n, oI_s, pf_1 i1 hpp, pf_2 i1 hpp, pf_3 i1 hpp, a1, b2, b3]
  first | refine by_iald (by first | exact rfl | assumption | exact ps_1 hpp | exact ps_2 hpp | exact ps_3 hpp | exact ps_4 hpp | exact ps_5 hpp | exact ps_6 hpp | exact ps_7 hpp | exact ps_8 hpp | exact ps_9 hpp | exact ps_10 hpp | exact ps_11 hpp | exact ps_15 hpp | exact ps_16 hpp | exact ps_17 hpp | exact ps_18 hpp | exact ps_19 hpp | exact ps_21 hpp | exact ps_22 hpp | exact ps_23 hpp | exact ps_24 hpp) ⟨by omega, by omega⟩ ?_ | refine by_tald rfl rfl ⟨by omega, by omega⟩ ?_
  simp (disch := first | exact Nat.ne_of_beq_eq_false rfl | omega) only [nI_add, xa_sub, xa_mul, pk_div, nm_mod, xa_shr, xa_and7, xa_and1, xa_and255, xa_by_and, nI_m1, Nat.add_sub_cancel, Nat.reducePow, Nat.zero_add, Nat.add_zero, Nat.reduceAdd, Nat.reduceMul, Nat.reduceSub, xf_same, xq_ff, xq_fo, xf_1, xf_2, xs_1, xs_2, xs_same, xq_so, xj_1, xj_2, xj_same, xq_jo, xq_sa1, xq_same, xq_other, upd_s, oI_n, oI_s, pf_1 i1 hpp, pf_2 i1 hpp, pf_3 i1 hpp, a1, b2, b3]
  refine by_sw ?_
  simp (disch := first | exact Nat.ne_of_beq_eq_false rfl | omega) only [nI_add, xa_sub, xa_mul, pk_div, nm_mod, xa_shr, xa_and7, xa_and1, xa_and255, xa_by_and, nI_m1, Nat.add_sub_cancel, Nat.reducePow, Nat.zero_add, Nat.add_zero, Nat.reduceAdd, Nat.reduceMul, Nat.reduceSub, xf_same, xq_ff, xq_fo, xf_1, xf_2, xs_1, xs_2, xs_same, xq_so, xj_1, xj_2, xj_same, xq_jo, xq_sa1, xq_same, xq_other, upd_s, oI_n, oI_s, xv_0, xv_1, xv_2, xv_3, xm_p1, xm_p2, List.filter_cons, List.filter_nil, Nat.reduceBEq, Bool.not_true, Bool.not_false, Bool.and_true, Bool.and_false, Bool.false_and, Bool.true_and, if_true, if_false, Bool.false_eq_true, reduceIte, xc_i, xc_j, xc_r, xc_n, List.nil_append, List.cons_append, Option.toList_some, Option.toList_none, pf_1 i1 hpp, pf_2 i1 hpp, pf_3 i1 hpp, a1, b2, b3]
  refine xq_sw 371 (by decide) (by decide) ?_
  with_reducible refine xm_go_blk b_X1_rule_371 k_X1_rule_371 ?_
  refine by_aload_n rfl ?_
  refine by_iload_n rfl ?_
  refine by_iconst ci_m1 ?_
  refine by_iconst ci_m1 ?_
  refine by_ins4 cn_46 lk_1_76 (by rw [xe_cnt]; decide) is_47 np_47 (Nat.le_of_ble_eq_true rfl) ?_
  refine rl_set hpp i1 (by omega) ?_
  with_reducible refine xm_go_blk b_X1_rule_378 k_X1_rule_378 ?_
  refine by_iconst ci_1 ?_
  refine by_iret ry_46 (by first | rfl | assumption) ?_
  have hf : Fr (rlR pp) grT h (xm_si (xm_si h (pp + 6) n (-1)) (pp + 7) n (-1)) := Fr_si (Fr_si Fr_rf (by simp [rlR])) (by simp [rlR])
  refine hP.1 _ c k l r rt es (updN src n 0) (updN tgt n 0) hf (tsI_new hI hn hnL hl hf (gr_fr i4 (Fr_si (Fr_si (Fr_rf (S := [pp + 6, pp + 7]) (T := [])) (by simp)) (by simp)) (by simp) (by simp <;> omega) (by simp <;> omega) (by simp <;> omega) (by simp <;> omega) (by simp <;> omega)) ?_ tx_rf (by omega) (fun e => absurd hc e) (fun m hm => rl_ss hm) (fun _ => rl_sn))
  refine tyS_add i5 tx_rf (fun t h1 h2 => absurd h1 (by omega)) (fun q hq => Or.inl hq) (fun q hq => hq) hnL hch (fun e => absurd hc e) (fun f hf => ?_) (fun S T V hs ht hr v1 v2 v3 v4 => ⟨V, v1, fun _ _ => rfl, fun t h1 h2 => absurd h1 (by omega), v3, fun e => absurd hc e⟩)
  refine ⟨fun e => ?_, fun e => ?_, fun e => ?_, fun e => ?_, fun e => ?_, fun e => ?_, fun e => ?_, fun e => ?_, fun e => ?_, fun e => ?_⟩ <;> (rw [hc] at e; cases e)
end RUL
