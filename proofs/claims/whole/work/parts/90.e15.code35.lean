/-! ===== the class's machine: give ===== -/
theorem hiB_cg {g g' : Nat → Nat} : ∀ {n : Nat}, (∀ i, i < n → g i = g' i) → hiB g n = hiB g' n
  | 0, _ => rfl
  | n + 1, h => by
    show g n :: hiB g n = g' n :: hiB g' n
    rw [h n (by omega), hiB_cg (fun i hi => h i (by omega))]
theorem hiB_n (Bm : Nat → Bool) : ∀ (n a : Nat), hiB (fun i => mc_n Bm a n / 2 ^ i % 2) n = (mc_rd Bm a n).map Bool.toNat
  | 0, _ => rfl
  | n + 1, a => by
    have e : mc_n Bm a (n + 1) = (Bm a).toNat * 2 ^ n + mc_n Bm (a + 1) n := by
      unfold mc_n
      rw [mc_rd_c, bnum_cons, mc_rd_len]
    have ih := hiB_n Bm n (a + 1)
    show (mc_n Bm a (n + 1) / 2 ^ n % 2) :: hiB (fun i => mc_n Bm a (n + 1) / 2 ^ i % 2) n = _
    rw [mc_rd_c, List.map_cons, e, dm_top (mc_n_lt _ _ _), ← ih]
    congr 1
    exact hiB_cg (fun i hi => dm_low hi)
theorem plsb_n {v i : Nat} (hv : v < 2 ^ 64) (hi : i < 64) : plsb (lN v) i = nI (v / 2 ^ i % 2) := by
  unfold plsb
  have h1 := wb_shr hv hi
  rw [h1, l2i_n, nx_and]
  congr 1
  exact Nat.and_two_pow_sub_one_eq_mod _ 1
section GV
variable {sc : xm_Sc} {d : Nat} {h : xm_H} {post : xm_Po}
theorem sp_give {bl : List Nat} {p n : Nat} (hF : XF h) (hb : penB h bl) (hn : bl.length + n ≤ 65536) (hpn : p + n ≤ 839680) (hp : ∀ h', Fr [6] [(5, 1), (5, 2), (5, 3)] h h' → penB h' (bl ++ (mc_rd (mB h) p n).map Bool.toNat) → post none h') : xm_T (XE sc) (d + 4) 84 [.ref 32, .ref 5, .int (nI p), .int (nI n)] h post := by
  have key : ∀ (y z : Nat) (h1 : xm_H), n ≤ z + 32 * y → z ≤ n + 31 → Fr [6] [(5, 1), (5, 2), (5, 3)] h h1 → penB h1 (bl ++ (mc_rd (mB h) p (min z n)).map Bool.toNat) → xm_go (XE sc) (xm_T (XE sc) (d + 3)) 84 post 3 [(4, .int (nI z)), (0, .ref 32), (1, .ref 5), (2, .int (nI p)), (3, .int (nI n))] [] h1 := by
    intro y
    induction y with
    | zero =>
      intro z h1 hz hz2 f1 b1
      rw [Nat.min_eq_right (by omega)] at b1
      with_reducible refine xm_go_blk b_X4_give_3 k_X4_give_3 ?_
      refine by_iload rfl ?_
      refine by_iload_n rfl ?_
      refine by_ic_ge 51 rfl ?_
      simp (disch := first | exact Nat.ne_of_beq_eq_false rfl | exact rfl | omega) only [nI_add, xa_sub, xa_mul, pk_div, nm_mod, xa_shr, xa_and7, xa_and1, xa_and255, xa_by_and, nI_m1, Nat.add_sub_cancel, Nat.reducePow, Nat.zero_add, Nat.add_zero, Nat.reduceAdd, Nat.reduceMul, Nat.reduceSub, xf_same, xq_ff, xq_fo, xf_1, xf_2, xs_1, xs_2, xs_same, xq_so, xj_1, xj_2, xj_same, xq_jo, xq_sa1, xq_same, xq_other, upd_s, oI_n, oI_s, xv_0, xv_1, xv_2, xv_3, xm_p1, xm_p2, xq_fp, xq_fn, List.filter_nil, Nat.reduceBEq, Bool.not_true, Bool.not_false, Bool.and_true, Bool.and_false, Bool.false_and, Bool.true_and, if_true, if_false, Bool.false_eq_true, reduceIte, xc_i, xc_j, xc_r, xc_n, List.nil_append, List.cons_append, Option.toList_some, Option.toList_none, nI_ltJ, nI_leJ, nI_eqJ, nI_ltz, nI_gez, nI_gtz, nI_lez, nI_eqz, m1_ltz, m1_gez, true_imp_iff, false_imp_iff, true_and, and_true, ne_eq, not_false_eq_true, not_true_eq_false, Nat.reduceEqDiff, Nat.reduceLT, Nat.reduceLeDiff]
      refine ⟨fun c3 => ?_, fun c => absurd (by omega) c⟩
      with_reducible refine xm_go_blk b_X4_give_51 k_X4_give_51 ?_
      refine by_ret ry_84 ?_
      exact hp h1 f1 b1
    | succ y ih =>
      intro z h1 hz hz2 f1 b1
      by_cases e : n ≤ z
      · rw [Nat.min_eq_right (by omega)] at b1
        with_reducible refine xm_go_blk b_X4_give_3 k_X4_give_3 ?_
        refine by_iload rfl ?_
        refine by_iload_n rfl ?_
        refine by_ic_ge 51 rfl ?_
        simp (disch := first | exact Nat.ne_of_beq_eq_false rfl | exact rfl | omega) only [nI_add, xa_sub, xa_mul, pk_div, nm_mod, xa_shr, xa_and7, xa_and1, xa_and255, xa_by_and, nI_m1, Nat.add_sub_cancel, Nat.reducePow, Nat.zero_add, Nat.add_zero, Nat.reduceAdd, Nat.reduceMul, Nat.reduceSub, xf_same, xq_ff, xq_fo, xf_1, xf_2, xs_1, xs_2, xs_same, xq_so, xj_1, xj_2, xj_same, xq_jo, xq_sa1, xq_same, xq_other, upd_s, oI_n, oI_s, xv_0, xv_1, xv_2, xv_3, xm_p1, xm_p2, xq_fp, xq_fn, List.filter_nil, Nat.reduceBEq, Bool.not_true, Bool.not_false, Bool.and_true, Bool.and_false, Bool.false_and, Bool.true_and, if_true, if_false, Bool.false_eq_true, reduceIte, xc_i, xc_j, xc_r, xc_n, List.nil_append, List.cons_append, Option.toList_some, Option.toList_none, nI_ltJ, nI_leJ, nI_eqJ, nI_ltz, nI_gez, nI_gtz, nI_lez, nI_eqz, m1_ltz, m1_gez, true_imp_iff, false_imp_iff, true_and, and_true, ne_eq, not_false_eq_true, not_true_eq_false, Nat.reduceEqDiff, Nat.reduceLT, Nat.reduceLeDiff]
        refine ⟨fun c3 => ?_, fun c => absurd (by omega) c⟩
        with_reducible refine xm_go_blk b_X4_give_51 k_X4_give_51 ?_
        refine by_ret ry_84 ?_
        exact hp h1 f1 b1
      · have F1 := Fr_XF hF f1 (by decide +kernel)
        have eB : mB h1 = mB h := mB_fr f1 (by simp)
        rw [Nat.min_eq_left (by omega)] at b1
        have step : ∀ so, 1 ≤ so → so ≤ 32 → z + so = min (z + 32) n → xm_go (XE sc) (xm_T (XE sc) (d + 3)) 84 post 27 [(4, .int (nI z)), (0, .ref 32), (1, .ref 5), (2, .int (nI p)), (3, .int (nI n))] [.int (nI so)] h1 := by
          intro so s1 s2 s3
          with_reducible refine xm_go_blk b_X4_give_27 k_X4_give_27 ?_
          refine by_istore (by rw [ml_84]; decide) ?_
          refine by_aload_n rfl ?_
          refine by_aload_n rfl ?_
          refine by_iload_n rfl ?_
          refine by_iload rfl ?_
          refine by_iadd ?_
          refine by_iload rfl ?_
          simp (disch := first | exact Nat.ne_of_beq_eq_false rfl | exact rfl | omega) only [nI_add, xa_sub, xa_mul, pk_div, nm_mod, xa_shr, xa_and7, xa_and1, xa_and255, xa_by_and, nI_m1, Nat.add_sub_cancel, Nat.reducePow, Nat.zero_add, Nat.add_zero, Nat.reduceAdd, Nat.reduceMul, Nat.reduceSub, xf_same, xq_ff, xq_fo, xf_1, xf_2, xs_1, xs_2, xs_same, xq_so, xj_1, xj_2, xj_same, xq_jo, xq_sa1, xq_same, xq_other, upd_s, oI_n, oI_s, xv_0, xv_1, xv_2, xv_3, xm_p1, xm_p2, xq_fp, xq_fn, List.filter_nil, Nat.reduceBEq, Bool.not_true, Bool.not_false, Bool.and_true, Bool.and_false, Bool.false_and, Bool.true_and, if_true, if_false, Bool.false_eq_true, reduceIte, xc_i, xc_j, xc_r, xc_n, List.nil_append, List.cons_append, Option.toList_some, Option.toList_none]
          refine by_inv2 cn_84 lk_4_62 (by rw [xe_cnt]; decide) is_83 np_83 cn_83 (by first | exact rfl | assumption) (Nat.le_of_ble_eq_true rfl) ?_
          refine sp_get F1 s1 (by omega) (by omega) ?_
          rw [eB]
          with_reducible refine xm_go_blk b_X4_give_40 k_X4_give_40 ?_
          refine by_iload rfl ?_
          refine by_inv2 cn_84 lk_4_76 (by rw [xe_cnt]; decide) is_135 np_135 cn_135 (by first | exact rfl | assumption | exact ps_12 hpp) (Nat.le_of_ble_eq_true rfl) ?_
          have hlt : mc_n (mB h) (p + z) so < 2 ^ 64 := Nat.lt_of_lt_of_le (mc_n_lt _ _ _) (Nat.pow_le_pow_right (by decide) (by omega))
          refine sp_putBits (g := fun i => mc_n (mB h) (p + z) so / 2 ^ i % 2) F1 b1 (by rw [List.length_append, List.length_map, mc_rd_len]; omega) (fun i hi => ⟨plsb_n hlt (by omega), Nat.mod_lt _ (by decide)⟩) (fun h2 f2 b2 => ?_)
          with_reducible refine xm_go_blk b_X4_give_45 k_X4_give_45 ?_
          refine by_iinc (by rw [ml_84]; decide) rfl (by decide : Int32.ofInt (32) = nI 32) ?_
          refine by_goto 3 rfl ?_
          try simp (disch := first | exact Nat.ne_of_beq_eq_false rfl | exact rfl | omega) only [nI_add, xa_sub, xa_mul, pk_div, nm_mod, xa_shr, xa_and7, xa_and1, xa_and255, xa_by_and, nI_m1, Nat.add_sub_cancel, Nat.reducePow, Nat.zero_add, Nat.add_zero, Nat.reduceAdd, Nat.reduceMul, Nat.reduceSub, xf_same, xq_ff, xq_fo, xf_1, xf_2, xs_1, xs_2, xs_same, xq_so, xj_1, xj_2, xj_same, xq_jo, xq_sa1, xq_same, xq_other, upd_s, oI_n, oI_s, xv_0, xv_1, xv_2, xv_3, xm_p1, xm_p2, xq_fp, xq_fn, List.filter_nil, Nat.reduceBEq, Bool.not_true, Bool.not_false, Bool.and_true, Bool.and_false, Bool.false_and, Bool.true_and, if_true, if_false, Bool.false_eq_true, reduceIte, xc_i, xc_j, xc_r, xc_n, List.nil_append, List.cons_append, Option.toList_some, Option.toList_none]
          refine xm_go_wk (by simp [Value.category]) (ih (z + 32) h2 (by omega) (by omega) (Fr_tr f1 f2 (fun _ z => z) (fun _ z => z)) ?_)
          rw [hiB_n, List.append_assoc, ← List.map_append, ← mc_rd_add, s3] at b2
          exact b2
        by_cases e2 : 32 ≤ n - z
        · with_reducible refine xm_go_blk b_X4_give_3 k_X4_give_3 ?_
          refine by_iload rfl ?_
          refine by_iload_n rfl ?_
          refine by_ic_ge 51 rfl ?_
          simp (disch := first | exact Nat.ne_of_beq_eq_false rfl | exact rfl | omega) only [nI_add, xa_sub, xa_mul, pk_div, nm_mod, xa_shr, xa_and7, xa_and1, xa_and255, xa_by_and, nI_m1, Nat.add_sub_cancel, Nat.reducePow, Nat.zero_add, Nat.add_zero, Nat.reduceAdd, Nat.reduceMul, Nat.reduceSub, xf_same, xq_ff, xq_fo, xf_1, xf_2, xs_1, xs_2, xs_same, xq_so, xj_1, xj_2, xj_same, xq_jo, xq_sa1, xq_same, xq_other, upd_s, oI_n, oI_s, xv_0, xv_1, xv_2, xv_3, xm_p1, xm_p2, xq_fp, xq_fn, List.filter_nil, Nat.reduceBEq, Bool.not_true, Bool.not_false, Bool.and_true, Bool.and_false, Bool.false_and, Bool.true_and, if_true, if_false, Bool.false_eq_true, reduceIte, xc_i, xc_j, xc_r, xc_n, List.nil_append, List.cons_append, Option.toList_some, Option.toList_none, nI_ltJ, nI_leJ, nI_eqJ, nI_ltz, nI_gez, nI_gtz, nI_lez, nI_eqz, m1_ltz, m1_gez, true_imp_iff, false_imp_iff, true_and, and_true, ne_eq, not_false_eq_true, not_true_eq_false, Nat.reduceEqDiff, Nat.reduceLT, Nat.reduceLeDiff]
          refine ⟨fun c => absurd c (by omega), fun c3 => ?_⟩
          with_reducible refine xm_go_blk b_X4_give_9 k_X4_give_9 ?_
          refine by_iload_n rfl ?_
          refine by_iload rfl ?_
          refine by_isub ?_
          refine by_bipush cb_32 ?_
          refine by_ic_ge 25 rfl ?_
          simp (disch := first | exact Nat.ne_of_beq_eq_false rfl | exact rfl | omega) only [nI_add, xa_sub, xa_mul, pk_div, nm_mod, xa_shr, xa_and7, xa_and1, xa_and255, xa_by_and, nI_m1, Nat.add_sub_cancel, Nat.reducePow, Nat.zero_add, Nat.add_zero, Nat.reduceAdd, Nat.reduceMul, Nat.reduceSub, xf_same, xq_ff, xq_fo, xf_1, xf_2, xs_1, xs_2, xs_same, xq_so, xj_1, xj_2, xj_same, xq_jo, xq_sa1, xq_same, xq_other, upd_s, oI_n, oI_s, xv_0, xv_1, xv_2, xv_3, xm_p1, xm_p2, xq_fp, xq_fn, List.filter_nil, Nat.reduceBEq, Bool.not_true, Bool.not_false, Bool.and_true, Bool.and_false, Bool.false_and, Bool.true_and, if_true, if_false, Bool.false_eq_true, reduceIte, xc_i, xc_j, xc_r, xc_n, List.nil_append, List.cons_append, Option.toList_some, Option.toList_none, nI_ltJ, nI_leJ, nI_eqJ, nI_ltz, nI_gez, nI_gtz, nI_lez, nI_eqz, m1_ltz, m1_gez, true_imp_iff, false_imp_iff, true_and, and_true, ne_eq, not_false_eq_true, not_true_eq_false, Nat.reduceEqDiff, Nat.reduceLT, Nat.reduceLeDiff]
          refine ⟨fun c9 => ?_, fun c => absurd (by omega) c⟩
          with_reducible refine xm_go_blk b_X4_give_25 k_X4_give_25 ?_
          refine by_bipush cb_32 ?_
          refine by_nil ?_
          exact step 32 (by decide) (by decide) (by omega)
        · with_reducible refine xm_go_blk b_X4_give_3 k_X4_give_3 ?_
          refine by_iload rfl ?_
          refine by_iload_n rfl ?_
          refine by_ic_ge 51 rfl ?_
          simp (disch := first | exact Nat.ne_of_beq_eq_false rfl | exact rfl | omega) only [nI_add, xa_sub, xa_mul, pk_div, nm_mod, xa_shr, xa_and7, xa_and1, xa_and255, xa_by_and, nI_m1, Nat.add_sub_cancel, Nat.reducePow, Nat.zero_add, Nat.add_zero, Nat.reduceAdd, Nat.reduceMul, Nat.reduceSub, xf_same, xq_ff, xq_fo, xf_1, xf_2, xs_1, xs_2, xs_same, xq_so, xj_1, xj_2, xj_same, xq_jo, xq_sa1, xq_same, xq_other, upd_s, oI_n, oI_s, xv_0, xv_1, xv_2, xv_3, xm_p1, xm_p2, xq_fp, xq_fn, List.filter_nil, Nat.reduceBEq, Bool.not_true, Bool.not_false, Bool.and_true, Bool.and_false, Bool.false_and, Bool.true_and, if_true, if_false, Bool.false_eq_true, reduceIte, xc_i, xc_j, xc_r, xc_n, List.nil_append, List.cons_append, Option.toList_some, Option.toList_none, nI_ltJ, nI_leJ, nI_eqJ, nI_ltz, nI_gez, nI_gtz, nI_lez, nI_eqz, m1_ltz, m1_gez, true_imp_iff, false_imp_iff, true_and, and_true, ne_eq, not_false_eq_true, not_true_eq_false, Nat.reduceEqDiff, Nat.reduceLT, Nat.reduceLeDiff]
          refine ⟨fun c => absurd c (by omega), fun c3 => ?_⟩
          with_reducible refine xm_go_blk b_X4_give_9 k_X4_give_9 ?_
          refine by_iload_n rfl ?_
          refine by_iload rfl ?_
          refine by_isub ?_
          refine by_bipush cb_32 ?_
          refine by_ic_ge 25 rfl ?_
          simp (disch := first | exact Nat.ne_of_beq_eq_false rfl | exact rfl | omega) only [nI_add, xa_sub, xa_mul, pk_div, nm_mod, xa_shr, xa_and7, xa_and1, xa_and255, xa_by_and, nI_m1, Nat.add_sub_cancel, Nat.reducePow, Nat.zero_add, Nat.add_zero, Nat.reduceAdd, Nat.reduceMul, Nat.reduceSub, xf_same, xq_ff, xq_fo, xf_1, xf_2, xs_1, xs_2, xs_same, xq_so, xj_1, xj_2, xj_same, xq_jo, xq_sa1, xq_same, xq_other, upd_s, oI_n, oI_s, xv_0, xv_1, xv_2, xv_3, xm_p1, xm_p2, xq_fp, xq_fn, List.filter_nil, Nat.reduceBEq, Bool.not_true, Bool.not_false, Bool.and_true, Bool.and_false, Bool.false_and, Bool.true_and, if_true, if_false, Bool.false_eq_true, reduceIte, xc_i, xc_j, xc_r, xc_n, List.nil_append, List.cons_append, Option.toList_some, Option.toList_none, nI_ltJ, nI_leJ, nI_eqJ, nI_ltz, nI_gez, nI_gtz, nI_lez, nI_eqz, m1_ltz, m1_gez, true_imp_iff, false_imp_iff, true_and, and_true, ne_eq, not_false_eq_true, not_true_eq_false, Nat.reduceEqDiff, Nat.reduceLT, Nat.reduceLeDiff]
          refine ⟨fun c => absurd c (by omega), fun c9 => ?_⟩
          with_reducible refine xm_go_blk b_X4_give_18 k_X4_give_18 ?_
          refine by_iload_n rfl ?_
          refine by_iload rfl ?_
          refine by_isub ?_
          refine by_goto 27 rfl ?_
          try simp (disch := first | exact Nat.ne_of_beq_eq_false rfl | exact rfl | omega) only [nI_add, xa_sub, xa_mul, pk_div, nm_mod, xa_shr, xa_and7, xa_and1, xa_and255, xa_by_and, nI_m1, Nat.add_sub_cancel, Nat.reducePow, Nat.zero_add, Nat.add_zero, Nat.reduceAdd, Nat.reduceMul, Nat.reduceSub, xf_same, xq_ff, xq_fo, xf_1, xf_2, xs_1, xs_2, xs_same, xq_so, xj_1, xj_2, xj_same, xq_jo, xq_sa1, xq_same, xq_other, upd_s, oI_n, oI_s, xv_0, xv_1, xv_2, xv_3, xm_p1, xm_p2, xq_fp, xq_fn, List.filter_nil, Nat.reduceBEq, Bool.not_true, Bool.not_false, Bool.and_true, Bool.and_false, Bool.false_and, Bool.true_and, if_true, if_false, Bool.false_eq_true, reduceIte, xc_i, xc_j, xc_r, xc_n, List.nil_append, List.cons_append, Option.toList_some, Option.toList_none]
          exact step (n - z) (by omega) (by omega) (by omega)
  refine xq_in rfl ?_
  simp only [xq_a0, xq_aI, xq_aJ, xq_aR, Nat.reduceAdd]
  with_reducible refine xm_go_blk b_X4_give_0 k_X4_give_0 ?_
  refine by_iconst ci_0 ?_
  refine by_istore (by rw [ml_84]; decide) ?_
  refine by_nil ?_
  try simp (disch := first | exact Nat.ne_of_beq_eq_false rfl | exact rfl | omega) only [nI_add, xa_sub, xa_mul, pk_div, nm_mod, xa_shr, xa_and7, xa_and1, xa_and255, xa_by_and, nI_m1, Nat.add_sub_cancel, Nat.reducePow, Nat.zero_add, Nat.add_zero, Nat.reduceAdd, Nat.reduceMul, Nat.reduceSub, xf_same, xq_ff, xq_fo, xf_1, xf_2, xs_1, xs_2, xs_same, xq_so, xj_1, xj_2, xj_same, xq_jo, xq_sa1, xq_same, xq_other, upd_s, oI_n, oI_s, xv_0, xv_1, xv_2, xv_3, xm_p1, xm_p2, xq_fp, xq_fn, List.filter_nil, Nat.reduceBEq, Bool.not_true, Bool.not_false, Bool.and_true, Bool.and_false, Bool.false_and, Bool.true_and, if_true, if_false, Bool.false_eq_true, reduceIte, xc_i, xc_j, xc_r, xc_n, List.nil_append, List.cons_append, Option.toList_some, Option.toList_none]
  exact xm_go_wk (by simp [Value.category]) (key (n / 32 + 1) 0 h (by omega) (by omega) Fr_rf (by rw [Nat.zero_min]; simpa [mc_rd] using hb))
end GV
