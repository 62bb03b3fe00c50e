/-! ===== the reference: types of jets ===== -/
theorem ty_den_lt {c : Nat} {k l r : Nat → Nat} {a : Ty} {t : Nat} (hd : ty_den c k l r a t) : t < c := by
  cases a <;> exact hd.1
theorem mj_fin {cd fi se nu : Nat → Nat} {L : List Nat} {c c' : Nat} {k l r k' l' r' : Nat → Nat} {es : List (Nat × Nat)} {src tgt : Nat → Nat} {n s t : Nat} (hS : tyS cd fi se nu L c k l r es src tgt) (he : tx c c' k l r k' l' r') (hN : ∀ t, c ≤ t → t < c' → k' t = 3 ∧ l' t < c ∧ r' t < c) (hnL : n ∉ L) (hch : ∀ m ∈ L, (cd m ≤ 6 → fi m ≠ n) ∧ (cd m ≤ 2 → se m ≠ n)) (hc : cd n = 12) (hs : ty_den c' k' l' r' (ty_js (nu n)) s) (ht : ty_den c' k' l' r' (ty_jt (nu n)) t) : tyS cd fi se nu (L ++ [n]) c' k' l' r' es (updN src n s) (updN tgt n t) := by
  have hce := he.1
  refine tyS_add hS he (fun t h1 h2 => ?_) (fun q hq => Or.inl hq) (fun q hq => hq) hnL hch (fun _ => ⟨ty_den_lt hs, ty_den_lt ht⟩) (fun f hf => ?_) (fun S T V vs vt hr v1 v2 v3 v4 => ?_)
  · obtain ⟨a, b, e⟩ := hN t h1 h2
    exact ⟨by omega, fun _ => ⟨by omega, by omega⟩⟩
  · refine ⟨fun e => ?_, fun e => ?_, fun e => ?_, fun e => ?_, fun e => ?_, fun e => ?_, fun e => ?_, fun e => ?_, fun e => ?_, fun e => ?_⟩ <;> first | (exfalso; omega) | skip
    rw [updN_s, updN_s]
    exact ⟨hs, ht⟩
  · have hold : ∀ t, t < c → (fun t => if t < c then V t else .mul (V (l' t)) (V (r' t)) : Nat → Ty) t = V t := fun t q => if_pos q
    have hnew : ∀ t, c ≤ t → t < c' → ty_st (fun t => if t < c then V t else .mul (V (l' t)) (V (r' t)) : Nat → Ty) (k' t) (l' t) (r' t) t := by
      intro t h1 h2
      obtain ⟨a, b, e⟩ := hN t h1 h2
      rw [a]
      refine ⟨nofun, nofun, fun _ => ?_⟩
      show (if t < c then V t else .mul (V (l' t)) (V (r' t)) : Ty) = .mul (if l' t < c then _ else _) (if r' t < c then _ else _)
      rw [if_neg (by omega), if_pos b, if_pos e]
    have hall := tx_all he hS.1 v2 hold hnew
    obtain ⟨r1, r2⟩ := hr.2.2.2.2.2.2.2.2.2 hc
    refine ⟨_, fun t => ?_, hold, hnew, tx_pd hS.2.1 v3 hold, fun _ => ⟨?_, ?_⟩⟩
    · show ty_ok (if t < c then V t else .mul (V (l' t)) (V (r' t)))
      by_cases q : t < c
      · rw [if_pos q]; exact v1 t
      · rw [if_neg q]; exact ⟨v1 _, v1 _⟩
    · rw [r1]; exact ty_den_V hall _ _ (ty_shp_ok _ _) hs
    · rw [r2]; exact ty_den_V hall _ _ (ty_shp_ok _ _) ht
section RUL
variable {sc : xm_Sc} {d c : Nat} {k l r rt : Nat → Nat} {es : List (Nat × Nat)} {h : xm_H} {post : xm_Po}
theorem sp_bitAnd {x : Nat} (hF : XF h) (hg : mgr h c k l r rt es) (hc : c < 14200) (hw : h.1 144 0 = nI 1) (h1 : 1 < c) (hx : x < c)
    (hp : ∀ h', Fr mgR mgT h h' → mgr h' (c + 1) (updN k c 3) (updN l c 1) (updN r c x) (updN rt c c) es → post (some (.int (nI c))) h') : xm_T (XE sc) (d + 2) 209 [.ref 102, .int (nI x)] h post := by
  refine xq_in rfl ?_
  simp only [xq_a0, xq_aI, xq_aJ, xq_aR, Nat.reduceAdd]
  with_reducible refine xm_go_blk b_X12_bitAnd_0 k_X12_bitAnd_0 ?_
  refine by_aload_n rfl ?_
  refine by_iconst ci_3 ?_
  refine by_aload_n rfl ?_
  refine by_getf cn_209 fl_12_137 (by first | exact rfl | assumption) (by decide) ?_
  refine by_iconst ci_0 ?_
  simp (disch := first | exact Nat.ne_of_beq_eq_false rfl | exact rfl | omega) only [nI_add, xa_sub, xa_mul, pk_div, nm_mod, xa_shr, xa_and7, xa_and1, xa_and255, xa_by_and, nI_m1, Nat.add_sub_cancel, Nat.reducePow, Nat.zero_add, Nat.add_zero, Nat.reduceAdd, Nat.reduceMul, Nat.reduceSub, xf_same, xq_ff, xq_fo, xf_1, xf_2, xs_1, xs_2, xs_same, xq_so, xj_1, xj_2, xj_same, xq_jo, xq_sa1, xq_same, xq_other, upd_s, oI_n, oI_s, xf_102_57 hF, hw]
  first | refine by_iald (by first | exact rfl | assumption | exact ps_1 hpp | exact ps_2 hpp | exact ps_3 hpp | exact ps_4 hpp | exact ps_5 hpp | exact ps_6 hpp | exact ps_7 hpp | exact ps_8 hpp | exact ps_9 hpp | exact ps_10 hpp | exact ps_11 hpp | exact ps_15 hpp | exact ps_16 hpp | exact ps_17 hpp | exact ps_18 hpp | exact ps_19 hpp | exact ps_21 hpp | exact ps_22 hpp | exact ps_23 hpp | exact ps_24 hpp) ⟨by omega, by omega⟩ ?_ | refine by_tald rfl rfl ⟨by omega, by omega⟩ ?_
  refine by_iload_n rfl ?_
  simp (disch := first | exact Nat.ne_of_beq_eq_false rfl | exact rfl | omega) only [nI_add, xa_sub, xa_mul, pk_div, nm_mod, xa_shr, xa_and7, xa_and1, xa_and255, xa_by_and, nI_m1, Nat.add_sub_cancel, Nat.reducePow, Nat.zero_add, Nat.add_zero, Nat.reduceAdd, Nat.reduceMul, Nat.reduceSub, xf_same, xq_ff, xq_fo, xf_1, xf_2, xs_1, xs_2, xs_same, xq_so, xj_1, xj_2, xj_same, xq_jo, xq_sa1, xq_same, xq_other, upd_s, oI_n, oI_s, xv_0, xv_1, xv_2, xv_3, xm_p1, xm_p2, xq_fp, xq_fn, List.filter_nil, Nat.reduceBEq, Bool.not_true, Bool.not_false, Bool.and_true, Bool.and_false, Bool.false_and, Bool.true_and, if_true, if_false, Bool.false_eq_true, reduceIte, xc_i, xc_j, xc_r, xc_n, List.nil_append, List.cons_append, Option.toList_some, Option.toList_none, xf_102_57 hF, hw]
  refine by_inv3 cn_209 lk_12_236 (by rw [xe_cnt]; decide) is_213 np_213 cn_213 (by first | exact rfl | assumption) (Nat.le_of_ble_eq_true rfl) ?_
  refine sp_mcell (kk := 3) (ll := 1) (rr := x) hF hg hc (by decide) (fun _ => ⟨rfl, rfl, by omega, by omega⟩) (fun h' hf hg' => ?_)
  with_reducible refine xm_go_blk b_X12_bitAnd_12 k_X12_bitAnd_12 ?_
  refine by_iret ry_209 (by first | rfl | assumption) ?_
  exact hp h' hf hg'
end RUL
