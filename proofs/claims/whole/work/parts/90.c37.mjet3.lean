/-! ===== the reference: jetTypes, path by path ===== -/
def mjC (n c num : Nat) (k l r : Nat → Nat) (es : List (Nat × Nat)) (h : xm_H) (post : xm_Po) : Prop := ∀ h1 c' k' l' r' rt' s t, Fr mgR mgT h h1 → mgr h1 c' k' l' r' rt' es → tx c c' k l r k' l' r' → (∀ t, c ≤ t → t < c' → k' t = 3 ∧ l' t < c ∧ r' t < c) → c' ≤ c + 2 → ty_den c' k' l' r' (ty_js num) s → ty_den c' k' l' r' (ty_jt num) t → post none (xm_si (xm_si h1 111 n (nI s)) 112 n (nI t))
theorem mj_js {K m : Nat} (hm : m < 4) : ty_js (4 * K + m) = ty_shp (jt_S K) m ∧ ty_jt (4 * K + m) = ty_shp (jt_T K) m := by
  unfold ty_js ty_jt
  rw [show (4 * K + m) / 4 = K by omega, show (4 * K + m) % 4 = m by omega]
  exact ⟨rfl, rfl⟩
section JET
variable {sc : xm_Sc} {d n K m c : Nat} {k l r rt : Nat → Nat} {es : List (Nat × Nat)} {h : xm_H} {post : xm_Po}
theorem mj_4 (hF : XF h) (hg : mgr h c k l r rt es) (hc : c < 14190) (h10 : 10 ≤ c) (hn : n < 2000) (hK : 4 ≤ K) (hK2 : K < 7) (hm : m < 4) (hw : ∀ j, j < 9 → h.1 144 j = nI (j + 1) ∧ ty_den c k l r (ty_wd j) (j + 1)) (hp : mjC n c (4 * K + m) k l r es h post) :
    xm_go (XE sc) (xm_T (XE sc) (d + 2)) 241 post 81 [(0, .ref 102), (1, .int (nI n)), (2, .int (nI K)), (3, .int (nI (3 + m))), (4, .int (nI (3 + m + 1))), (5, .int (nI (3 + m + 1 + 1))), (6, .int (nI (3 + m + 1))), (7, .int (nI (3 + m + 1)))] [] h := by
  with_reducible refine xm_go_blk b_X12_jetTypes_81 k_X12_jetTypes_81 ?_
  refine by_iload_n rfl ?_
  refine by_bipush cb_7 ?_
  refine by_ic_ge 98 rfl ?_
  simp (disch := first | exact Nat.ne_of_beq_eq_false rfl | exact rfl | omega) only [nI_add, xa_sub, xa_mul, pk_div, nm_mod, xa_shr, xa_and7, xa_and1, xa_and255, xa_by_and, nI_m1, Nat.add_sub_cancel, Nat.reducePow, Nat.zero_add, Nat.add_zero, Nat.reduceAdd, Nat.reduceMul, Nat.reduceSub, xf_same, xq_ff, xq_fo, xf_1, xf_2, xs_1, xs_2, xs_same, xq_so, xj_1, xj_2, xj_same, xq_jo, xq_sa1, xq_same, xq_other, upd_s, oI_n, oI_s, xv_0, xv_1, xv_2, xv_3, xm_p1, xm_p2, xq_fp, xq_fn, List.filter_nil, Nat.reduceBEq, Bool.not_true, Bool.not_false, Bool.and_true, Bool.and_false, Bool.false_and, Bool.true_and, if_true, if_false, Bool.false_eq_true, reduceIte, xc_i, xc_j, xc_r, xc_n, List.nil_append, List.cons_append, Option.toList_some, Option.toList_none, nI_ltJ, nI_leJ, nI_eqJ, nI_ltz, nI_gez, nI_gtz, nI_lez, nI_eqz, m1_ltz, m1_gez, true_imp_iff, false_imp_iff, true_and, and_true, ne_eq, not_false_eq_true, not_true_eq_false, Nat.reduceEqDiff, Nat.reduceLT, Nat.reduceLeDiff]
  refine ⟨fun c => absurd c (by omega), fun c81 => ?_⟩
  with_reducible refine xm_go_blk b_X12_jetTypes_87 k_X12_jetTypes_87 ?_
  refine by_aload_n rfl ?_
  refine by_iload rfl ?_
  refine by_inv1 cn_241 lk_12_243 (by rw [xe_cnt]; decide) is_209 np_209 cn_209 (by first | exact rfl | assumption) (Nat.le_of_ble_eq_true rfl) ?_
  refine sp_bitAnd hF hg (by omega) (hw 0 (by decide)).1 (by omega) (by omega) (fun h1 g1 g2 => ?_)
  with_reducible refine xm_go_blk b_X12_jetTypes_93 k_X12_jetTypes_93 ?_
  refine by_istore (by rw [ml_241]; decide) ?_
  refine by_goto 348 rfl ?_
  simp (disch := first | exact Nat.ne_of_beq_eq_false rfl | exact rfl | omega) only [nI_add, xa_sub, xa_mul, pk_div, nm_mod, xa_shr, xa_and7, xa_and1, xa_and255, xa_by_and, nI_m1, Nat.add_sub_cancel, Nat.reducePow, Nat.zero_add, Nat.add_zero, Nat.reduceAdd, Nat.reduceMul, Nat.reduceSub, xf_same, xq_ff, xq_fo, xf_1, xf_2, xs_1, xs_2, xs_same, xq_so, xj_1, xj_2, xj_same, xq_jo, xq_sa1, xq_same, xq_other, upd_s, oI_n, oI_s, xv_0, xv_1, xv_2, xv_3, xm_p1, xm_p2, xq_fp, xq_fn, List.filter_nil, Nat.reduceBEq, Bool.not_true, Bool.not_false, Bool.and_true, Bool.and_false, Bool.false_and, Bool.true_and, if_true, if_false, Bool.false_eq_true, reduceIte, xc_i, xc_j, xc_r, xc_n, List.nil_append, List.cons_append, Option.toList_some, Option.toList_none]
  refine xm_go_wk (by simp [Value.category]) (mj_348 (s := 3 + m + 1) (t := c) (Fr_XF hF g1 mg_fin) hn (hp h1 _ _ _ _ _ _ _ g1 g2 updN_tx (fun t h1 h2 => ?_) (by omega) ?_ ?_))
  · have : t = c := by omega
    subst this
    rw [updN_s, updN_s, updN_s]
    exact ⟨rfl, by omega, by omega⟩
  · rw [(mj_js hm).1, show jt_S K = 3 by rcases (by omega : K = 4 ∨ K = 5 ∨ K = 6) with rfl | rfl | rfl <;> rfl]
    exact ty_den_mono (Nat.le_succ _) updN_tx.2 _ _ (hw (3 + m) (by omega)).2
  · rw [(mj_js hm).2, show jt_T K = 7 by rcases (by omega : K = 4 ∨ K = 5 ∨ K = 6) with rfl | rfl | rfl <;> rfl]
    refine ⟨by omega, updN_s, ?_, ?_⟩
    · rw [updN_s]; exact ty_den_mono (Nat.le_succ _) updN_tx.2 _ _ (hw 0 (by omega)).2
    · rw [updN_s]; exact ty_den_mono (Nat.le_succ _) updN_tx.2 _ _ (hw (3 + m) (by omega)).2
end JET
