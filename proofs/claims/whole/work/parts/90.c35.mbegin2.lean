/-! ===== the reference: the first cells, all of it ===== -/
theorem bc_den {k l r : Nat → Nat} (hK : bcK 10 k l r) : ty_den 10 k l r tO 0 ∧ ∀ j, j < 9 → ty_den 10 k l r (ty_wd j) (j + 1) := by
  have h0 : ty_den 10 k l r tO 0 := ⟨by decide, hK.1 (by decide)⟩
  refine ⟨h0, fun j => ?_⟩
  induction j with
  | zero =>
    intro _
    obtain ⟨a, b, e⟩ := hK.2.1 (by decide)
    exact ⟨by decide, a, by show ty_den 10 k l r tO (l 1); rw [b]; exact h0, by show ty_den 10 k l r tO (r 1); rw [e]; exact h0⟩
  | succ j ih =>
    intro hj
    obtain ⟨a, b, e⟩ := hK.2.2 (j + 1 + 1) (by omega) (by omega)
    exact ⟨by omega, a, by rw [b]; exact ih (by omega), by rw [e]; exact ih (by omega)⟩
theorem bc_tyS {k l r : Nat → Nat} {cd fi se nu src tgt : Nat → Nat} (hK : bcK 10 k l r) : tyS cd fi se nu [] 10 k l r [] src tgt := by
  refine ⟨fun t ht => ?_, fun q hq => absurd hq (by simp), fun n hn => absurd hn (by simp), fun f _ n hn => absurd hn (by simp), fun S T _ => ⟨fun t => if t = 0 then tO else ty_wd (t - 1), fun t => ?_, fun t ht => ?_, ty_pd_nil _, fun n hn => absurd hn (by simp)⟩⟩
  · rcases (by omega : t = 0 ∨ t = 1 ∨ 2 ≤ t) with rfl | rfl | q
    · rw [hK.1 (by decide)]; exact ⟨by decide, fun q => absurd q (by decide)⟩
    · obtain ⟨a, b, e⟩ := hK.2.1 (by decide)
      rw [a, b, e]; exact ⟨by decide, fun _ => ⟨by decide, by decide⟩⟩
    · obtain ⟨a, b, e⟩ := hK.2.2 t q ht
      rw [a, b, e]; exact ⟨by decide, fun _ => ⟨by omega, by omega⟩⟩
  · show ty_ok (if t = 0 then tO else ty_wd (t - 1))
    by_cases e : t = 0
    · rw [if_pos e]; exact rfl
    · rw [if_neg e]; exact ty_wd_ok _
  · rcases (by omega : t = 0 ∨ t = 1 ∨ 2 ≤ t) with rfl | rfl | q
    · have a := hK.1 (by decide)
      refine ⟨fun _ => rfl, fun z => ?_, fun z => ?_⟩ <;> omega
    · obtain ⟨a, b, e⟩ := hK.2.1 (by decide)
      refine ⟨fun z => by omega, fun z => ?_, fun z => by omega⟩
      rw [b, e]; rfl
    · obtain ⟨a, b, e⟩ := hK.2.2 t q ht
      refine ⟨fun z => by omega, fun z => by omega, fun z => ?_⟩
      rw [b, e]
      obtain ⟨p, rfl⟩ : ∃ p, t = p + 2 := ⟨t - 2, by omega⟩
      rfl
section BEG
variable {sc : xm_Sc} {d : Nat} {h : xm_H} {post : xm_Po}
theorem sp_beginCells (hF : XF h) (hp : ∀ h' k l r rt, Fr mbR mgT h h' → mgr h' 10 k l r rt [] → bcK 10 k l r → (∀ q, q < 9 → h'.1 144 q = nI (q + 1)) → post none h') : xm_T (XE sc) (d + 2) 204 [.ref 102] h post := by
  refine xq_in rfl ?_
  simp only [xq_a0, xq_aI, xq_aJ, xq_aR, Nat.reduceAdd]
  with_reducible refine xm_go_blk b_X12_beginCells_0 k_X12_beginCells_0 ?_
  refine by_aload_n rfl ?_
  refine by_iconst ci_0 ?_
  refine by_putf cn_204 fl_12_233 (by first | exact rfl | assumption) (by decide) nf_12_50 ft_12_50 (by first | rfl | assumption) (by first | rfl | assumption) ?_
  refine by_aload_n rfl ?_
  refine by_iconst ci_1 ?_
  refine by_iconst ci_m1 ?_
  refine by_iconst ci_m1 ?_
  refine by_inv3 cn_204 lk_12_236 (by rw [xe_cnt]; decide) is_213 np_213 cn_213 (by first | exact rfl | assumption) (Nat.le_of_ble_eq_true rfl) ?_
  have F0 : Fr mbR mgT h (xm_sf h 102 50 (.int (nI 0))) := Fr_sf Fr_rf (by decide)
  have J0 := Fr_XF hF F0 mg_fin
  refine sp_mcell (kk := 1) (ll := 0) (rr := 0) J0 (mgr_0 (by simp only [xf_same])) (by decide) (by decide) (fun q => absurd q (by decide)) (fun h1 g1 g2 => ?_)
  have j1 : XF h1 := Fr_XF J0 g1 mg_fin
  with_reducible refine xm_go_blk b_X12_beginCells_12 k_X12_beginCells_12 ?_
  refine by_istore_n (by rw [ml_204]; decide) ?_
  refine by_aload_n rfl ?_
  refine by_getf cn_204 fl_12_137 (by first | exact rfl | assumption) (by decide) ?_
  refine by_iconst ci_0 ?_
  refine by_aload_n rfl ?_
  refine by_iconst ci_2 ?_
  refine by_iload_n rfl ?_
  refine by_iload_n rfl ?_
  simp (disch := first | exact Nat.ne_of_beq_eq_false rfl | exact rfl | omega) only [nI_add, xa_sub, xa_mul, pk_div, nm_mod, xa_shr, xa_and7, xa_and1, xa_and255, xa_by_and, nI_m1, Nat.add_sub_cancel, Nat.reducePow, Nat.zero_add, Nat.add_zero, Nat.reduceAdd, Nat.reduceMul, Nat.reduceSub, xf_same, xq_ff, xq_fo, xf_1, xf_2, xs_1, xs_2, xs_same, xq_so, xj_1, xj_2, xj_same, xq_jo, xq_sa1, xq_same, xq_other, upd_s, oI_n, oI_s, xv_0, xv_1, xv_2, xv_3, xm_p1, xm_p2, xq_fp, xq_fn, List.filter_nil, Nat.reduceBEq, Bool.not_true, Bool.not_false, Bool.and_true, Bool.and_false, Bool.false_and, Bool.true_and, if_true, if_false, Bool.false_eq_true, reduceIte, xc_i, xc_j, xc_r, xc_n, List.nil_append, List.cons_append, Option.toList_some, Option.toList_none, xf_102_57 j1]
  refine by_inv3 cn_204 lk_12_236 (by rw [xe_cnt]; decide) is_213 np_213 cn_213 (by first | exact rfl | assumption) (Nat.le_of_ble_eq_true rfl) ?_
  refine sp_mcell (kk := 2) (ll := 0) (rr := 0) j1 g2 (by decide) (by decide) (fun _ => ⟨rfl, rfl, by decide, by decide⟩) (fun h2 g3 g4 => ?_)
  have f2 : Fr mbR mgT h (xm_si h2 144 0 (nI 1)) := Fr_si (Fr_tr (Fr_tr F0 (Fr_mb g1) (fun _ q => q) (fun _ q => q)) (Fr_mb g3) (fun _ q => q) (fun _ q => q)) (by decide)
  with_reducible refine xm_go_blk b_X12_beginCells_25 k_X12_beginCells_25 ?_
  refine by_iast (by first | exact rfl | assumption | exact ps_1 hpp | exact ps_2 hpp | exact ps_3 hpp | exact ps_4 hpp | exact ps_5 hpp | exact ps_6 hpp | exact ps_7 hpp | exact ps_8 hpp | exact ps_9 hpp | exact ps_10 hpp | exact ps_11 hpp | exact ps_15 hpp | exact ps_16 hpp | exact ps_17 hpp | exact ps_18 hpp | exact ps_19 hpp | exact ps_21 hpp | exact ps_22 hpp | exact ps_23 hpp | exact ps_24 hpp) ⟨by omega, by omega⟩ ?_
  refine by_iconst ci_1 ?_
  refine by_istore_n (by rw [ml_204]; decide) ?_
  refine by_nil ?_
  simp (disch := first | exact Nat.ne_of_beq_eq_false rfl | exact rfl | omega) only [nI_add, xa_sub, xa_mul, pk_div, nm_mod, xa_shr, xa_and7, xa_and1, xa_and255, xa_by_and, nI_m1, Nat.add_sub_cancel, Nat.reducePow, Nat.zero_add, Nat.add_zero, Nat.reduceAdd, Nat.reduceMul, Nat.reduceSub, xf_same, xq_ff, xq_fo, xf_1, xf_2, xs_1, xs_2, xs_same, xq_so, xj_1, xj_2, xj_same, xq_jo, xq_sa1, xq_same, xq_other, upd_s, oI_n, oI_s, xv_0, xv_1, xv_2, xv_3, xm_p1, xm_p2, xq_fp, xq_fn, List.filter_nil, Nat.reduceBEq, Bool.not_true, Bool.not_false, Bool.and_true, Bool.and_false, Bool.false_and, Bool.true_and, if_true, if_false, Bool.false_eq_true, reduceIte, xc_i, xc_j, xc_r, xc_n, List.nil_append, List.cons_append, Option.toList_some, Option.toList_none]
  refine xm_go_wk (by simp [Value.category]) (bc_loop hp 8 1 _ _ _ _ _ rfl (by decide) (Fr_XF hF f2 mg_fin) f2 (mgr_w g4) ⟨fun _ => rfl, fun _ => ⟨rfl, rfl, rfl⟩, fun t a b => absurd b (by omega)⟩ (fun q hq => ?_))
  have : q = 0 := by omega
  subst this
  rw [xs_same, upd_s]
end BEG
