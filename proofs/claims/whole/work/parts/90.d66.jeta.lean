/-! ===== jets of the class: readWords, giveWords ===== -/
def jAt (s : Nat) : Nat := if s = 8 then 1 else if s = 10 then 8 else 0
def jc (u : Nat → Bool) (s : Nat) : Nat := mc_n u 0 (jAt s)
def jx (u : Nat → Bool) (s w : Nat) : Nat := if s = 0 then 0 else if s = 2 then mc_n u 0 (w / 2) else mc_n u (jAt s) w
def jy (u : Nat → Bool) (s w : Nat) : Nat := if s = 4 ∨ s = 8 ∨ s = 9 ∨ s = 5 then mc_n u (jAt s + w) w else 0
def jz (u : Nat → Bool) (s w : Nat) : Nat := if s = 9 ∨ s = 5 then mc_n u (jAt s + 2 * w) w else 0
def jv (u : Nat → Bool) (s w : Nat) : Nat := if s = 5 then mc_n u (jAt s + 3 * w) w else 0
theorem mc_n_sh (B : Nat → Bool) (f p n : Nat) : mc_n (mc_sh B f) p n = mc_n B (f + p) n := by unfold mc_n; rw [mc_rd_sh]
theorem mc_n_0 (B : Nat → Bool) (p : Nat) : mc_n B p 0 = 0 := rfl
/-- how wide a shape is -/
def jWs (s w : Nat) : Nat := if s = 0 then 0 else if s = 2 then w / 2 else if s = 3 then w else if s = 4 then 2 * w else if s = 5 then 4 * w else if s = 8 then 1 + 2 * w else if s = 9 then 3 * w else 8 + w
def jWB (s w f : Nat) : Prop := (s ≠ 0 → s ≠ 2 → f + jAt s + w ≤ 839680) ∧ ((s = 4 ∨ s = 8 ∨ s = 9 ∨ s = 5) → f + jAt s + w + w ≤ 839680) ∧ ((s = 9 ∨ s = 5) → f + jAt s + 2 * w + w ≤ 839680) ∧ (s = 5 → f + jAt s + 3 * w + w ≤ 839680) ∧ (s = 2 → f + w / 2 ≤ 839680) ∧ (s = 8 → f + 1 ≤ 839680) ∧ (s = 10 → f + 8 ≤ 839680) ∧ f ≤ 839680
theorem jW_b {s w f : Nat} (hs : s = 0 ∨ s = 2 ∨ s = 3 ∨ s = 4 ∨ s = 5 ∨ s = 8 ∨ s = 9 ∨ s = 10) (hf : f + jWs s w ≤ 839680) : jWB s w f := by
  have h0 : f ≤ 839680 := by omega
  rcases hs with rfl | rfl | rfl | rfl | rfl | rfl | rfl | rfl
  · exact ⟨fun q => absurd rfl q, fun q => by omega, fun q => by omega, fun q => by omega, fun q => by omega, fun q => by omega, fun q => by omega, h0⟩
  · have hf' : f + w / 2 ≤ 839680 := hf
    exact ⟨fun _ q => absurd rfl q, fun q => by omega, fun q => by omega, fun q => by omega, fun _ => hf', fun q => by omega, fun q => by omega, h0⟩
  · have hf' : f + w ≤ 839680 := hf
    exact ⟨fun _ _ => hf', fun q => by omega, fun q => by omega, fun q => by omega, fun q => by omega, fun q => by omega, fun q => by omega, h0⟩
  · have hf' : f + 2 * w ≤ 839680 := hf
    exact ⟨fun _ _ => (by omega : f + w ≤ 839680), fun _ => (by omega : f + w + w ≤ 839680), fun q => by omega, fun q => by omega, fun q => by omega, fun q => by omega, fun q => by omega, h0⟩
  · have hf' : f + 4 * w ≤ 839680 := hf
    exact ⟨fun _ _ => (by omega : f + w ≤ 839680), fun _ => (by omega : f + w + w ≤ 839680), fun _ => (by omega : f + 2 * w + w ≤ 839680), fun _ => (by omega : f + 3 * w + w ≤ 839680), fun q => by omega, fun q => by omega, fun q => by omega, h0⟩
  · have hf' : f + (1 + 2 * w) ≤ 839680 := hf
    exact ⟨fun _ _ => (by omega : f + 1 + w ≤ 839680), fun _ => (by omega : f + 1 + w + w ≤ 839680), fun q => by omega, fun q => by omega, fun q => by omega, fun _ => by omega, fun q => by omega, h0⟩
  · have hf' : f + 3 * w ≤ 839680 := hf
    exact ⟨fun _ _ => (by omega : f + w ≤ 839680), fun _ => (by omega : f + w + w ≤ 839680), fun _ => (by omega : f + 2 * w + w ≤ 839680), fun q => by omega, fun q => by omega, fun q => by omega, fun q => by omega, h0⟩
  · have hf' : f + (8 + w) ≤ 839680 := hf
    exact ⟨fun _ _ => (by omega : f + 8 + w ≤ 839680), fun q => by omega, fun q => by omega, fun q => by omega, fun q => by omega, fun q => by omega, fun _ => by omega, h0⟩
section JA
variable {sc : xm_Sc} {d w f s : Nat} {h : xm_H} {post : xm_Po}
def jrT : List (Nat × Nat) := [(39, 2), (39, 3), (39, 4), (39, 5), (39, 6)]
theorem sp_readWords (hF : XF h) (hw : jw w) (h0 : h.2.2 39 0 = .int (nI w)) (hs : s = 0 ∨ s = 2 ∨ s = 3 ∨ s = 4 ∨ s = 5 ∨ s = 8 ∨ s = 9 ∨ s = 10) (hf : f + jWs s w ≤ 839680)
    (hp : ∀ h', Fr [] jrT h h' → h'.2.2 39 2 = .int (nI (jc (mc_sh (mB h) f) s)) → h'.2.2 39 3 = .long (lN (jx (mc_sh (mB h) f) s w)) → h'.2.2 39 4 = .long (lN (jy (mc_sh (mB h) f) s w)) → h'.2.2 39 5 = .long (lN (jz (mc_sh (mB h) f) s w)) → h'.2.2 39 6 = .long (lN (jv (mc_sh (mB h) f) s w)) → post none h') : xm_T (XE sc) (d + 2) 64 [.ref 39, .int (nI s), .ref 32, .int (nI f)] h post := by
  have hle := jw_le hw
  have hWB := jW_b hs hf
  have wb8 : f ≤ 839680 := hWB.2.2.2.2.2.2.2
  clear hf
  -- from the place where x is read
  have tail : ∀ (at' xx : Nat) (h2 : xm_H), at' = f + jAt s → xx = jx (mc_sh (mB h) f) s w → Fr [] jrT h h2 → h2.2.2 39 2 = .int (nI (jc (mc_sh (mB h) f) s)) → xm_go (XE sc) (xm_T (XE sc) (d + 1)) 64 post 91 [(4, .int (nI at')), (0, .ref 39), (1, .int (nI s)), (2, .ref 32), (3, .int (nI f))] [.long (lN xx), .ref 39] h2 := by
    intro at' xx h2 hat hxx f2 e2
    have F2 := Fr_XF hF f2 (by decide +kernel)
    have m2 : mB h2 = mB h := mB_fr f2 (by simp)
    have w2 : h2.2.2 39 0 = .int (nI w) := by rw [f2.2.2 _ _ (by simp [jrT])]; exact h0
    let g := xm_sf (xm_sf (xm_sf (xm_sf h2 39 3 (.long (lN xx))) 39 4 (.long (lN 0))) 39 5 (.long (lN 0))) 39 6 (.long (lN 0))
    have fg : Fr [] jrT h g := Fr_sf (Fr_sf (Fr_sf (Fr_sf f2 (by simp [jrT])) (by simp [jrT])) (by simp [jrT])) (by simp [jrT])
    have Fg : XF g := Fr_XF hF fg (by decide +kernel)
    have mg : mB g = mB h := m2
    have g2 : g.2.2 39 2 = .int (nI (jc (mc_sh (mB h) f) s)) := by rw [← e2]; simp [g, xm_sf, updV]
    have gw : g.2.2 39 0 = .int (nI w) := by rw [← w2]; simp [g, xm_sf, updV]
    have g3 : g.2.2 39 3 = .long (lN xx) := by simp [g, xm_sf, updV]
    have g4 : g.2.2 39 4 = .long (lN 0) := by simp [g, xm_sf, updV]
    have g5 : g.2.2 39 5 = .long (lN 0) := by simp [g, xm_sf, updV]
    have g6 : g.2.2 39 6 = .long (lN 0) := by simp [g, xm_sf, updV]
    subst hxx
    have ny : ¬ (s = 4 ∨ s = 8 ∨ s = 9 ∨ s = 5) → jy (mc_sh (mB h) f) s w = 0 := fun q => if_neg q
    have nz : ¬ (s = 9 ∨ s = 5) → jz (mc_sh (mB h) f) s w = 0 := fun q => if_neg q
    have nv : ¬ s = 5 → jv (mc_sh (mB h) f) s w = 0 := fun q => if_neg q
    have yy : (s = 4 ∨ s = 8 ∨ s = 9 ∨ s = 5) → jy (mc_sh (mB h) f) s w = mc_n (mB h) (at' + w) w := fun q => by unfold jy; rw [if_pos q, mc_n_sh, hat, Nat.add_assoc]
    have zz : (s = 9 ∨ s = 5) → jz (mc_sh (mB h) f) s w = mc_n (mB h) (at' + 2 * w) w := fun q => by unfold jz; rw [if_pos q, mc_n_sh, hat, Nat.add_assoc]
    have vv : s = 5 → jv (mc_sh (mB h) f) s w = mc_n (mB h) (at' + 3 * w) w := fun q => by unfold jv; rw [if_pos q, mc_n_sh, hat, Nat.add_assoc]
    have hAt : jAt s ≤ 8 := by unfold jAt; split <;> (try split) <;> omega
    have hA5 : s = 5 ∨ s = 9 ∨ s = 4 → jAt s = 0 := fun q => by unfold jAt; rw [if_neg (by omega), if_neg (by omega)]
    by_cases qy : s = 4 ∨ s = 8 ∨ s = 9 ∨ s = 5
    · have hgety : xm_go (XE sc) (xm_T (XE sc) (d + 1)) 64 post 131 [(4, .int (nI at')), (0, .ref 39), (1, .int (nI s)), (2, .ref 32), (3, .int (nI f))] [] g := by
        with_reducible refine xm_go_blk b_X2_readWords_131 k_X2_readWords_131 ?_
        refine by_aload_n rfl ?_
        refine by_aload_n rfl ?_
        refine by_iload rfl ?_
        refine by_aload_n rfl ?_
        refine by_getf cn_64 fl_2_7 (by first | exact rfl | assumption) (by decide) ?_
        simp (disch := first | exact Nat.ne_of_beq_eq_false rfl | exact rfl | omega) only [nI_add, xa_sub, xa_mul, pk_div, nm_mod, xa_shr, xa_and7, xa_and1, xa_and255, xa_by_and, nI_m1, Nat.add_sub_cancel, Nat.reducePow, Nat.zero_add, Nat.add_zero, Nat.reduceAdd, Nat.reduceMul, Nat.reduceSub, xf_same, xq_ff, xq_fo, xf_1, xf_2, xs_1, xs_2, xs_same, xq_so, xj_1, xj_2, xj_same, xq_jo, xq_sa1, xq_same, xq_other, upd_s, oI_n, oI_s, gw]
        refine by_iadd ?_
        refine by_aload_n rfl ?_
        refine by_getf cn_64 fl_2_7 (by first | exact rfl | assumption) (by decide) ?_
        simp (disch := first | exact Nat.ne_of_beq_eq_false rfl | exact rfl | omega) only [nI_add, xa_sub, xa_mul, pk_div, nm_mod, xa_shr, xa_and7, xa_and1, xa_and255, xa_by_and, nI_m1, Nat.add_sub_cancel, Nat.reducePow, Nat.zero_add, Nat.add_zero, Nat.reduceAdd, Nat.reduceMul, Nat.reduceSub, xf_same, xq_ff, xq_fo, xf_1, xf_2, xs_1, xs_2, xs_same, xq_so, xj_1, xj_2, xj_same, xq_jo, xq_sa1, xq_same, xq_other, upd_s, oI_n, oI_s, xv_0, xv_1, xv_2, xv_3, xm_p1, xm_p2, xq_fp, xq_fn, List.filter_nil, Nat.reduceBEq, Bool.not_true, Bool.not_false, Bool.and_true, Bool.and_false, Bool.false_and, Bool.true_and, if_true, if_false, Bool.false_eq_true, reduceIte, xc_i, xc_j, xc_r, xc_n, List.nil_append, List.cons_append, Option.toList_some, Option.toList_none, gw]
        refine by_inv2 cn_64 lk_2_67 (by rw [xe_cnt]; decide) is_83 np_83 cn_83 (by first | exact rfl | assumption) (Nat.le_of_ble_eq_true rfl) ?_
        have wy := hWB.2.1 qy
        refine sp_get Fg (by omega) (by omega) (by omega) ?_
        rw [mg, ← yy qy]
        let g' := xm_sf g 39 4 (.long (lN (jy (mc_sh (mB h) f) s w)))
        have fg' : Fr [] jrT h g' := Fr_sf fg (by simp [jrT])
        have Fg' : XF g' := Fr_XF hF fg' (by decide +kernel)
        have mg' : mB g' = mB h := mg
        have g2' : g'.2.2 39 2 = .int (nI (jc (mc_sh (mB h) f) s)) := by rw [← g2]; simp [g', xm_sf, updV]
        have gw' : g'.2.2 39 0 = .int (nI w) := by rw [← gw]; simp [g', xm_sf, updV]
        have g3' : g'.2.2 39 3 = .long (lN (jx (mc_sh (mB h) f) s w)) := by rw [← g3]; simp [g', xm_sf, updV]
        have g4' : g'.2.2 39 4 = .long (lN (jy (mc_sh (mB h) f) s w)) := by simp [g', xm_sf, updV]
        have g5' : g'.2.2 39 5 = .long (lN 0) := by rw [← g5]; simp [g', xm_sf, updV]
        have g6' : g'.2.2 39 6 = .long (lN 0) := by rw [← g6]; simp [g', xm_sf, updV]
        by_cases qz : s = 9 ∨ s = 5
        · have hgetz : xm_go (XE sc) (xm_T (XE sc) (d + 1)) 64 post 161 [(4, .int (nI at')), (0, .ref 39), (1, .int (nI s)), (2, .ref 32), (3, .int (nI f))] [] g' := by
            have hA := hA5 (by omega)
            have wz := hWB.2.2.1 qz
            with_reducible refine xm_go_blk b_X2_readWords_161 k_X2_readWords_161 ?_
            refine by_aload_n rfl ?_
            refine by_aload_n rfl ?_
            refine by_iload rfl ?_
            refine by_iconst ci_2 ?_
            refine by_aload_n rfl ?_
            refine by_getf cn_64 fl_2_7 (by first | exact rfl | assumption) (by decide) ?_
            simp (disch := first | exact Nat.ne_of_beq_eq_false rfl | exact rfl | omega) only [nI_add, xa_sub, xa_mul, pk_div, nm_mod, xa_shr, xa_and7, xa_and1, xa_and255, xa_by_and, nI_m1, Nat.add_sub_cancel, Nat.reducePow, Nat.zero_add, Nat.add_zero, Nat.reduceAdd, Nat.reduceMul, Nat.reduceSub, xf_same, xq_ff, xq_fo, xf_1, xf_2, xs_1, xs_2, xs_same, xq_so, xj_1, xj_2, xj_same, xq_jo, xq_sa1, xq_same, xq_other, upd_s, oI_n, oI_s, gw']
            refine by_imul ?_
            refine by_iadd ?_
            refine by_aload_n rfl ?_
            refine by_getf cn_64 fl_2_7 (by first | exact rfl | assumption) (by decide) ?_
            simp (disch := first | exact Nat.ne_of_beq_eq_false rfl | exact rfl | omega) only [nI_add, xa_sub, xa_mul, pk_div, nm_mod, xa_shr, xa_and7, xa_and1, xa_and255, xa_by_and, nI_m1, Nat.add_sub_cancel, Nat.reducePow, Nat.zero_add, Nat.add_zero, Nat.reduceAdd, Nat.reduceMul, Nat.reduceSub, xf_same, xq_ff, xq_fo, xf_1, xf_2, xs_1, xs_2, xs_same, xq_so, xj_1, xj_2, xj_same, xq_jo, xq_sa1, xq_same, xq_other, upd_s, oI_n, oI_s, xv_0, xv_1, xv_2, xv_3, xm_p1, xm_p2, xq_fp, xq_fn, List.filter_nil, Nat.reduceBEq, Bool.not_true, Bool.not_false, Bool.and_true, Bool.and_false, Bool.false_and, Bool.true_and, if_true, if_false, Bool.false_eq_true, reduceIte, xc_i, xc_j, xc_r, xc_n, List.nil_append, List.cons_append, Option.toList_some, Option.toList_none, gw']
            refine by_inv2 cn_64 lk_2_67 (by rw [xe_cnt]; decide) is_83 np_83 cn_83 (by first | exact rfl | assumption) (Nat.le_of_ble_eq_true rfl) ?_
            refine sp_get Fg' (by omega) (by omega) (by omega) ?_
            rw [mg', ← zz qz]
            let k := xm_sf g' 39 5 (.long (lN (jz (mc_sh (mB h) f) s w)))
            have fk : Fr [] jrT h k := Fr_sf fg' (by simp [jrT])
            have Fk : XF k := Fr_XF hF fk (by decide +kernel)
            have mk : mB k = mB h := mg'
            have kw : k.2.2 39 0 = .int (nI w) := by rw [← gw']; simp [k, xm_sf, updV]
            have k2 : k.2.2 39 2 = .int (nI (jc (mc_sh (mB h) f) s)) := by rw [← g2']; simp [k, xm_sf, updV]
            have k3 : k.2.2 39 3 = .long (lN (jx (mc_sh (mB h) f) s w)) := by rw [← g3']; simp [k, xm_sf, updV]
            have k4 : k.2.2 39 4 = .long (lN (jy (mc_sh (mB h) f) s w)) := by rw [← g4']; simp [k, xm_sf, updV]
            have k5 : k.2.2 39 5 = .long (lN (jz (mc_sh (mB h) f) s w)) := by simp [k, xm_sf, updV]
            have k6 : k.2.2 39 6 = .long (lN 0) := by rw [← g6']; simp [k, xm_sf, updV]
            by_cases q5 : s = 5
            · have q5' : (s = 5) = True := eq_true q5
              have wv := hWB.2.2.2.1 q5
              with_reducible refine xm_go_blk b_X2_readWords_179 k_X2_readWords_179 ?_
              refine by_putf cn_64 fl_2_79 (by first | exact rfl | assumption) (by decide) nf_2_5 ft_2_5 (by first | rfl | assumption) (by first | rfl | assumption) ?_
              refine by_nil ?_
              with_reducible refine xm_go_blk b_X2_readWords_182 k_X2_readWords_182 ?_
              refine by_iload_n rfl ?_
              refine by_iconst ci_5 ?_
              refine by_ic_ne 208 rfl ?_
              simp (disch := first | exact Nat.ne_of_beq_eq_false rfl | exact rfl | omega) only [nI_add, xa_sub, xa_mul, pk_div, nm_mod, xa_shr, xa_and7, xa_and1, xa_and255, xa_by_and, nI_m1, Nat.add_sub_cancel, Nat.reducePow, Nat.zero_add, Nat.add_zero, Nat.reduceAdd, Nat.reduceMul, Nat.reduceSub, xf_same, xq_ff, xq_fo, xf_1, xf_2, xs_1, xs_2, xs_same, xq_so, xj_1, xj_2, xj_same, xq_jo, xq_sa1, xq_same, xq_other, upd_s, oI_n, oI_s, xv_0, xv_1, xv_2, xv_3, xm_p1, xm_p2, xq_fp, xq_fn, List.filter_nil, Nat.reduceBEq, Bool.not_true, Bool.not_false, Bool.and_true, Bool.and_false, Bool.false_and, Bool.true_and, if_true, if_false, Bool.false_eq_true, reduceIte, xc_i, xc_j, xc_r, xc_n, List.nil_append, List.cons_append, Option.toList_some, Option.toList_none, nI_ltJ, nI_leJ, nI_eqJ, nI_ltz, nI_gez, nI_gtz, nI_lez, nI_eqz, m1_ltz, m1_gez, true_imp_iff, false_imp_iff, true_and, and_true, ne_eq, not_false_eq_true, not_true_eq_false, Nat.reduceEqDiff, Nat.reduceLT, Nat.reduceLeDiff, q5', gw']
              with_reducible refine xm_go_blk b_X2_readWords_187 k_X2_readWords_187 ?_
              refine by_aload_n rfl ?_
              refine by_aload_n rfl ?_
              refine by_iload rfl ?_
              refine by_iconst ci_3 ?_
              refine by_aload_n rfl ?_
              refine by_getf cn_64 fl_2_7 (by first | exact rfl | assumption) (by decide) ?_
              simp (disch := first | exact Nat.ne_of_beq_eq_false rfl | exact rfl | omega) only [nI_add, xa_sub, xa_mul, pk_div, nm_mod, xa_shr, xa_and7, xa_and1, xa_and255, xa_by_and, nI_m1, Nat.add_sub_cancel, Nat.reducePow, Nat.zero_add, Nat.add_zero, Nat.reduceAdd, Nat.reduceMul, Nat.reduceSub, xf_same, xq_ff, xq_fo, xf_1, xf_2, xs_1, xs_2, xs_same, xq_so, xj_1, xj_2, xj_same, xq_jo, xq_sa1, xq_same, xq_other, upd_s, oI_n, oI_s, q5', gw']
              refine by_imul ?_
              refine by_iadd ?_
              refine by_aload_n rfl ?_
              refine by_getf cn_64 fl_2_7 (by first | exact rfl | assumption) (by decide) ?_
              simp (disch := first | exact Nat.ne_of_beq_eq_false rfl | exact rfl | omega) only [nI_add, xa_sub, xa_mul, pk_div, nm_mod, xa_shr, xa_and7, xa_and1, xa_and255, xa_by_and, nI_m1, Nat.add_sub_cancel, Nat.reducePow, Nat.zero_add, Nat.add_zero, Nat.reduceAdd, Nat.reduceMul, Nat.reduceSub, xf_same, xq_ff, xq_fo, xf_1, xf_2, xs_1, xs_2, xs_same, xq_so, xj_1, xj_2, xj_same, xq_jo, xq_sa1, xq_same, xq_other, upd_s, oI_n, oI_s, xv_0, xv_1, xv_2, xv_3, xm_p1, xm_p2, xq_fp, xq_fn, List.filter_nil, Nat.reduceBEq, Bool.not_true, Bool.not_false, Bool.and_true, Bool.and_false, Bool.false_and, Bool.true_and, if_true, if_false, Bool.false_eq_true, reduceIte, xc_i, xc_j, xc_r, xc_n, List.nil_append, List.cons_append, Option.toList_some, Option.toList_none, q5', gw']
              refine by_inv2 cn_64 lk_2_67 (by rw [xe_cnt]; decide) is_83 np_83 cn_83 (by first | exact rfl | assumption) (Nat.le_of_ble_eq_true rfl) ?_
              refine sp_get Fk (by omega) (by omega) (by omega) ?_
              rw [mk, ← vv q5]
              with_reducible refine xm_go_blk b_X2_readWords_205 k_X2_readWords_205 ?_
              refine by_putf cn_64 fl_2_82 (by first | exact rfl | assumption) (by decide) nf_2_6 ft_2_6 (by first | rfl | assumption) (by first | rfl | assumption) ?_
              refine by_nil ?_
              with_reducible refine xm_go_blk b_X2_readWords_208 k_X2_readWords_208 ?_
              refine by_ret ry_64 ?_
              have fl : Fr [] [(39, 6)] k (xm_sf k 39 6 (.long (lN (jv (mc_sh (mB h) f) s w)))) := Fr_sf Fr_rf (by simp)
              exact hp (xm_sf k 39 6 (.long (lN (jv (mc_sh (mB h) f) s w)))) (Fr_tr fk fl (by simp) (by simp [jrT])) (by rw [fl.2.2 _ _ (by simp)]; exact k2) (by rw [fl.2.2 _ _ (by simp)]; exact k3) (by rw [fl.2.2 _ _ (by simp)]; exact k4) (by rw [fl.2.2 _ _ (by simp)]; exact k5) (by simp [xm_sf, updV])
            · have q5' : (s = 5) = False := eq_false q5
              with_reducible refine xm_go_blk b_X2_readWords_179 k_X2_readWords_179 ?_
              refine by_putf cn_64 fl_2_79 (by first | exact rfl | assumption) (by decide) nf_2_5 ft_2_5 (by first | rfl | assumption) (by first | rfl | assumption) ?_
              refine by_nil ?_
              with_reducible refine xm_go_blk b_X2_readWords_182 k_X2_readWords_182 ?_
              refine by_iload_n rfl ?_
              refine by_iconst ci_5 ?_
              refine by_ic_ne 208 rfl ?_
              simp (disch := first | exact Nat.ne_of_beq_eq_false rfl | exact rfl | omega) only [nI_add, xa_sub, xa_mul, pk_div, nm_mod, xa_shr, xa_and7, xa_and1, xa_and255, xa_by_and, nI_m1, Nat.add_sub_cancel, Nat.reducePow, Nat.zero_add, Nat.add_zero, Nat.reduceAdd, Nat.reduceMul, Nat.reduceSub, xf_same, xq_ff, xq_fo, xf_1, xf_2, xs_1, xs_2, xs_same, xq_so, xj_1, xj_2, xj_same, xq_jo, xq_sa1, xq_same, xq_other, upd_s, oI_n, oI_s, xv_0, xv_1, xv_2, xv_3, xm_p1, xm_p2, xq_fp, xq_fn, List.filter_nil, Nat.reduceBEq, Bool.not_true, Bool.not_false, Bool.and_true, Bool.and_false, Bool.false_and, Bool.true_and, if_true, if_false, Bool.false_eq_true, reduceIte, xc_i, xc_j, xc_r, xc_n, List.nil_append, List.cons_append, Option.toList_some, Option.toList_none, nI_ltJ, nI_leJ, nI_eqJ, nI_ltz, nI_gez, nI_gtz, nI_lez, nI_eqz, m1_ltz, m1_gez, true_imp_iff, false_imp_iff, true_and, and_true, ne_eq, not_false_eq_true, not_true_eq_false, Nat.reduceEqDiff, Nat.reduceLT, Nat.reduceLeDiff, q5']
              with_reducible refine xm_go_blk b_X2_readWords_208 k_X2_readWords_208 ?_
              refine by_ret ry_64 ?_
              exact hp k fk k2 k3 k4 k5 (by rw [nv q5]; exact k6)
          rcases qz with q | q
          · have q9' : (s = 9) = True := eq_true q
            with_reducible refine xm_go_blk b_X2_readWords_147 k_X2_readWords_147 ?_
            refine by_putf cn_64 fl_2_76 (by first | exact rfl | assumption) (by decide) nf_2_4 ft_2_4 (by first | rfl | assumption) (by first | rfl | assumption) ?_
            refine by_nil ?_
            with_reducible refine xm_go_blk b_X2_readWords_150 k_X2_readWords_150 ?_
            refine by_iload_n rfl ?_
            refine by_bipush cb_9 ?_
            refine by_ic_eq 161 rfl ?_
            simp (disch := first | exact Nat.ne_of_beq_eq_false rfl | exact rfl | omega) only [nI_add, xa_sub, xa_mul, pk_div, nm_mod, xa_shr, xa_and7, xa_and1, xa_and255, xa_by_and, nI_m1, Nat.add_sub_cancel, Nat.reducePow, Nat.zero_add, Nat.add_zero, Nat.reduceAdd, Nat.reduceMul, Nat.reduceSub, xf_same, xq_ff, xq_fo, xf_1, xf_2, xs_1, xs_2, xs_same, xq_so, xj_1, xj_2, xj_same, xq_jo, xq_sa1, xq_same, xq_other, upd_s, oI_n, oI_s, xv_0, xv_1, xv_2, xv_3, xm_p1, xm_p2, xq_fp, xq_fn, List.filter_nil, Nat.reduceBEq, Bool.not_true, Bool.not_false, Bool.and_true, Bool.and_false, Bool.false_and, Bool.true_and, if_true, if_false, Bool.false_eq_true, reduceIte, xc_i, xc_j, xc_r, xc_n, List.nil_append, List.cons_append, Option.toList_some, Option.toList_none, nI_ltJ, nI_leJ, nI_eqJ, nI_ltz, nI_gez, nI_gtz, nI_lez, nI_eqz, m1_ltz, m1_gez, true_imp_iff, false_imp_iff, true_and, and_true, ne_eq, not_false_eq_true, not_true_eq_false, Nat.reduceEqDiff, Nat.reduceLT, Nat.reduceLeDiff, q9']
            exact xm_go_wk (by simp [Value.category]) hgetz
          · have q9' : (s = 9) = False := eq_false (by omega)
            have q5' : (s = 5) = True := eq_true q
            with_reducible refine xm_go_blk b_X2_readWords_147 k_X2_readWords_147 ?_
            refine by_putf cn_64 fl_2_76 (by first | exact rfl | assumption) (by decide) nf_2_4 ft_2_4 (by first | rfl | assumption) (by first | rfl | assumption) ?_
            refine by_nil ?_
            with_reducible refine xm_go_blk b_X2_readWords_150 k_X2_readWords_150 ?_
            refine by_iload_n rfl ?_
            refine by_bipush cb_9 ?_
            refine by_ic_eq 161 rfl ?_
            simp (disch := first | exact Nat.ne_of_beq_eq_false rfl | exact rfl | omega) only [nI_add, xa_sub, xa_mul, pk_div, nm_mod, xa_shr, xa_and7, xa_and1, xa_and255, xa_by_and, nI_m1, Nat.add_sub_cancel, Nat.reducePow, Nat.zero_add, Nat.add_zero, Nat.reduceAdd, Nat.reduceMul, Nat.reduceSub, xf_same, xq_ff, xq_fo, xf_1, xf_2, xs_1, xs_2, xs_same, xq_so, xj_1, xj_2, xj_same, xq_jo, xq_sa1, xq_same, xq_other, upd_s, oI_n, oI_s, xv_0, xv_1, xv_2, xv_3, xm_p1, xm_p2, xq_fp, xq_fn, List.filter_nil, Nat.reduceBEq, Bool.not_true, Bool.not_false, Bool.and_true, Bool.and_false, Bool.false_and, Bool.true_and, if_true, if_false, Bool.false_eq_true, reduceIte, xc_i, xc_j, xc_r, xc_n, List.nil_append, List.cons_append, Option.toList_some, Option.toList_none, nI_ltJ, nI_leJ, nI_eqJ, nI_ltz, nI_gez, nI_gtz, nI_lez, nI_eqz, m1_ltz, m1_gez, true_imp_iff, false_imp_iff, true_and, and_true, ne_eq, not_false_eq_true, not_true_eq_false, Nat.reduceEqDiff, Nat.reduceLT, Nat.reduceLeDiff, q9', q5']
            with_reducible refine xm_go_blk b_X2_readWords_156 k_X2_readWords_156 ?_
            refine by_iload_n rfl ?_
            refine by_iconst ci_5 ?_
            refine by_ic_ne 182 rfl ?_
            simp (disch := first | exact Nat.ne_of_beq_eq_false rfl | exact rfl | omega) only [nI_add, xa_sub, xa_mul, pk_div, nm_mod, xa_shr, xa_and7, xa_and1, xa_and255, xa_by_and, nI_m1, Nat.add_sub_cancel, Nat.reducePow, Nat.zero_add, Nat.add_zero, Nat.reduceAdd, Nat.reduceMul, Nat.reduceSub, xf_same, xq_ff, xq_fo, xf_1, xf_2, xs_1, xs_2, xs_same, xq_so, xj_1, xj_2, xj_same, xq_jo, xq_sa1, xq_same, xq_other, upd_s, oI_n, oI_s, xv_0, xv_1, xv_2, xv_3, xm_p1, xm_p2, xq_fp, xq_fn, List.filter_nil, Nat.reduceBEq, Bool.not_true, Bool.not_false, Bool.and_true, Bool.and_false, Bool.false_and, Bool.true_and, if_true, if_false, Bool.false_eq_true, reduceIte, xc_i, xc_j, xc_r, xc_n, List.nil_append, List.cons_append, Option.toList_some, Option.toList_none, nI_ltJ, nI_leJ, nI_eqJ, nI_ltz, nI_gez, nI_gtz, nI_lez, nI_eqz, m1_ltz, m1_gez, true_imp_iff, false_imp_iff, true_and, and_true, ne_eq, not_false_eq_true, not_true_eq_false, Nat.reduceEqDiff, Nat.reduceLT, Nat.reduceLeDiff, q9', q5']
            exact xm_go_wk (by simp [Value.category]) hgetz
        · have q9' : (s = 9) = False := eq_false (by omega)
          have q5' : (s = 5) = False := eq_false (by omega)
          with_reducible refine xm_go_blk b_X2_readWords_147 k_X2_readWords_147 ?_
          refine by_putf cn_64 fl_2_76 (by first | exact rfl | assumption) (by decide) nf_2_4 ft_2_4 (by first | rfl | assumption) (by first | rfl | assumption) ?_
          refine by_nil ?_
          with_reducible refine xm_go_blk b_X2_readWords_150 k_X2_readWords_150 ?_
          refine by_iload_n rfl ?_
          refine by_bipush cb_9 ?_
          refine by_ic_eq 161 rfl ?_
          simp (disch := first | exact Nat.ne_of_beq_eq_false rfl | exact rfl | omega) only [nI_add, xa_sub, xa_mul, pk_div, nm_mod, xa_shr, xa_and7, xa_and1, xa_and255, xa_by_and, nI_m1, Nat.add_sub_cancel, Nat.reducePow, Nat.zero_add, Nat.add_zero, Nat.reduceAdd, Nat.reduceMul, Nat.reduceSub, xf_same, xq_ff, xq_fo, xf_1, xf_2, xs_1, xs_2, xs_same, xq_so, xj_1, xj_2, xj_same, xq_jo, xq_sa1, xq_same, xq_other, upd_s, oI_n, oI_s, xv_0, xv_1, xv_2, xv_3, xm_p1, xm_p2, xq_fp, xq_fn, List.filter_nil, Nat.reduceBEq, Bool.not_true, Bool.not_false, Bool.and_true, Bool.and_false, Bool.false_and, Bool.true_and, if_true, if_false, Bool.false_eq_true, reduceIte, xc_i, xc_j, xc_r, xc_n, List.nil_append, List.cons_append, Option.toList_some, Option.toList_none, nI_ltJ, nI_leJ, nI_eqJ, nI_ltz, nI_gez, nI_gtz, nI_lez, nI_eqz, m1_ltz, m1_gez, true_imp_iff, false_imp_iff, true_and, and_true, ne_eq, not_false_eq_true, not_true_eq_false, Nat.reduceEqDiff, Nat.reduceLT, Nat.reduceLeDiff, q9', q5']
          with_reducible refine xm_go_blk b_X2_readWords_156 k_X2_readWords_156 ?_
          refine by_iload_n rfl ?_
          refine by_iconst ci_5 ?_
          refine by_ic_ne 182 rfl ?_
          simp (disch := first | exact Nat.ne_of_beq_eq_false rfl | exact rfl | omega) only [nI_add, xa_sub, xa_mul, pk_div, nm_mod, xa_shr, xa_and7, xa_and1, xa_and255, xa_by_and, nI_m1, Nat.add_sub_cancel, Nat.reducePow, Nat.zero_add, Nat.add_zero, Nat.reduceAdd, Nat.reduceMul, Nat.reduceSub, xf_same, xq_ff, xq_fo, xf_1, xf_2, xs_1, xs_2, xs_same, xq_so, xj_1, xj_2, xj_same, xq_jo, xq_sa1, xq_same, xq_other, upd_s, oI_n, oI_s, xv_0, xv_1, xv_2, xv_3, xm_p1, xm_p2, xq_fp, xq_fn, List.filter_nil, Nat.reduceBEq, Bool.not_true, Bool.not_false, Bool.and_true, Bool.and_false, Bool.false_and, Bool.true_and, if_true, if_false, Bool.false_eq_true, reduceIte, xc_i, xc_j, xc_r, xc_n, List.nil_append, List.cons_append, Option.toList_some, Option.toList_none, nI_ltJ, nI_leJ, nI_eqJ, nI_ltz, nI_gez, nI_gtz, nI_lez, nI_eqz, m1_ltz, m1_gez, true_imp_iff, false_imp_iff, true_and, and_true, ne_eq, not_false_eq_true, not_true_eq_false, Nat.reduceEqDiff, Nat.reduceLT, Nat.reduceLeDiff, q9', q5']
          with_reducible refine xm_go_blk b_X2_readWords_182 k_X2_readWords_182 ?_
          refine by_iload_n rfl ?_
          refine by_iconst ci_5 ?_
          refine by_ic_ne 208 rfl ?_
          simp (disch := first | exact Nat.ne_of_beq_eq_false rfl | exact rfl | omega) only [nI_add, xa_sub, xa_mul, pk_div, nm_mod, xa_shr, xa_and7, xa_and1, xa_and255, xa_by_and, nI_m1, Nat.add_sub_cancel, Nat.reducePow, Nat.zero_add, Nat.add_zero, Nat.reduceAdd, Nat.reduceMul, Nat.reduceSub, xf_same, xq_ff, xq_fo, xf_1, xf_2, xs_1, xs_2, xs_same, xq_so, xj_1, xj_2, xj_same, xq_jo, xq_sa1, xq_same, xq_other, upd_s, oI_n, oI_s, xv_0, xv_1, xv_2, xv_3, xm_p1, xm_p2, xq_fp, xq_fn, List.filter_nil, Nat.reduceBEq, Bool.not_true, Bool.not_false, Bool.and_true, Bool.and_false, Bool.false_and, Bool.true_and, if_true, if_false, Bool.false_eq_true, reduceIte, xc_i, xc_j, xc_r, xc_n, List.nil_append, List.cons_append, Option.toList_some, Option.toList_none, nI_ltJ, nI_leJ, nI_eqJ, nI_ltz, nI_gez, nI_gtz, nI_lez, nI_eqz, m1_ltz, m1_gez, true_imp_iff, false_imp_iff, true_and, and_true, ne_eq, not_false_eq_true, not_true_eq_false, Nat.reduceEqDiff, Nat.reduceLT, Nat.reduceLeDiff, q9', q5']
          with_reducible refine xm_go_blk b_X2_readWords_208 k_X2_readWords_208 ?_
          refine by_ret ry_64 ?_
          exact hp g' fg' g2' g3' g4' (by rw [nz qz]; exact g5') (by rw [nv (by omega)]; exact g6')
      rcases qy with q | q | q | q
      · have q4 : (s = 4) = True := eq_true q
        with_reducible refine xm_go_blk b_X2_readWords_91 k_X2_readWords_91 ?_
        refine by_putf cn_64 fl_2_73 (by first | exact rfl | assumption) (by decide) nf_2_3 ft_2_3 (by first | rfl | assumption) (by first | rfl | assumption) ?_
        refine by_aload_n rfl ?_
        refine by_lconst cl_0 ?_
        refine by_putf cn_64 fl_2_76 (by first | exact rfl | assumption) (by decide) nf_2_4 ft_2_4 (by first | rfl | assumption) (by first | rfl | assumption) ?_
        refine by_aload_n rfl ?_
        refine by_lconst cl_0 ?_
        refine by_putf cn_64 fl_2_79 (by first | exact rfl | assumption) (by decide) nf_2_5 ft_2_5 (by first | rfl | assumption) (by first | rfl | assumption) ?_
        refine by_aload_n rfl ?_
        refine by_lconst cl_0 ?_
        refine by_putf cn_64 fl_2_82 (by first | exact rfl | assumption) (by decide) nf_2_6 ft_2_6 (by first | rfl | assumption) (by first | rfl | assumption) ?_
        refine by_iload_n rfl ?_
        refine by_iconst ci_4 ?_
        refine by_ic_eq 131 rfl ?_
        simp (disch := first | exact Nat.ne_of_beq_eq_false rfl | exact rfl | omega) only [nI_add, xa_sub, xa_mul, pk_div, nm_mod, xa_shr, xa_and7, xa_and1, xa_and255, xa_by_and, nI_m1, Nat.add_sub_cancel, Nat.reducePow, Nat.zero_add, Nat.add_zero, Nat.reduceAdd, Nat.reduceMul, Nat.reduceSub, xf_same, xq_ff, xq_fo, xf_1, xf_2, xs_1, xs_2, xs_same, xq_so, xj_1, xj_2, xj_same, xq_jo, xq_sa1, xq_same, xq_other, upd_s, oI_n, oI_s, xv_0, xv_1, xv_2, xv_3, xm_p1, xm_p2, xq_fp, xq_fn, List.filter_nil, Nat.reduceBEq, Bool.not_true, Bool.not_false, Bool.and_true, Bool.and_false, Bool.false_and, Bool.true_and, if_true, if_false, Bool.false_eq_true, reduceIte, xc_i, xc_j, xc_r, xc_n, List.nil_append, List.cons_append, Option.toList_some, Option.toList_none, nI_ltJ, nI_leJ, nI_eqJ, nI_ltz, nI_gez, nI_gtz, nI_lez, nI_eqz, m1_ltz, m1_gez, true_imp_iff, false_imp_iff, true_and, and_true, ne_eq, not_false_eq_true, not_true_eq_false, Nat.reduceEqDiff, Nat.reduceLT, Nat.reduceLeDiff, q4]
        exact xm_go_wk (by simp [Value.category]) hgety
      · have q4 : (s = 4) = False := eq_false (by omega)
        have q8 : (s = 8) = True := eq_true q
        with_reducible refine xm_go_blk b_X2_readWords_91 k_X2_readWords_91 ?_
        refine by_putf cn_64 fl_2_73 (by first | exact rfl | assumption) (by decide) nf_2_3 ft_2_3 (by first | rfl | assumption) (by first | rfl | assumption) ?_
        refine by_aload_n rfl ?_
        refine by_lconst cl_0 ?_
        refine by_putf cn_64 fl_2_76 (by first | exact rfl | assumption) (by decide) nf_2_4 ft_2_4 (by first | rfl | assumption) (by first | rfl | assumption) ?_
        refine by_aload_n rfl ?_
        refine by_lconst cl_0 ?_
        refine by_putf cn_64 fl_2_79 (by first | exact rfl | assumption) (by decide) nf_2_5 ft_2_5 (by first | rfl | assumption) (by first | rfl | assumption) ?_
        refine by_aload_n rfl ?_
        refine by_lconst cl_0 ?_
        refine by_putf cn_64 fl_2_82 (by first | exact rfl | assumption) (by decide) nf_2_6 ft_2_6 (by first | rfl | assumption) (by first | rfl | assumption) ?_
        refine by_iload_n rfl ?_
        refine by_iconst ci_4 ?_
        refine by_ic_eq 131 rfl ?_
        simp (disch := first | exact Nat.ne_of_beq_eq_false rfl | exact rfl | omega) only [nI_add, xa_sub, xa_mul, pk_div, nm_mod, xa_shr, xa_and7, xa_and1, xa_and255, xa_by_and, nI_m1, Nat.add_sub_cancel, Nat.reducePow, Nat.zero_add, Nat.add_zero, Nat.reduceAdd, Nat.reduceMul, Nat.reduceSub, xf_same, xq_ff, xq_fo, xf_1, xf_2, xs_1, xs_2, xs_same, xq_so, xj_1, xj_2, xj_same, xq_jo, xq_sa1, xq_same, xq_other, upd_s, oI_n, oI_s, xv_0, xv_1, xv_2, xv_3, xm_p1, xm_p2, xq_fp, xq_fn, List.filter_nil, Nat.reduceBEq, Bool.not_true, Bool.not_false, Bool.and_true, Bool.and_false, Bool.false_and, Bool.true_and, if_true, if_false, Bool.false_eq_true, reduceIte, xc_i, xc_j, xc_r, xc_n, List.nil_append, List.cons_append, Option.toList_some, Option.toList_none, nI_ltJ, nI_leJ, nI_eqJ, nI_ltz, nI_gez, nI_gtz, nI_lez, nI_eqz, m1_ltz, m1_gez, true_imp_iff, false_imp_iff, true_and, and_true, ne_eq, not_false_eq_true, not_true_eq_false, Nat.reduceEqDiff, Nat.reduceLT, Nat.reduceLeDiff, q4, q8]
        with_reducible refine xm_go_blk b_X2_readWords_114 k_X2_readWords_114 ?_
        refine by_iload_n rfl ?_
        refine by_bipush cb_8 ?_
        refine by_ic_eq 131 rfl ?_
        simp (disch := first | exact Nat.ne_of_beq_eq_false rfl | exact rfl | omega) only [nI_add, xa_sub, xa_mul, pk_div, nm_mod, xa_shr, xa_and7, xa_and1, xa_and255, xa_by_and, nI_m1, Nat.add_sub_cancel, Nat.reducePow, Nat.zero_add, Nat.add_zero, Nat.reduceAdd, Nat.reduceMul, Nat.reduceSub, xf_same, xq_ff, xq_fo, xf_1, xf_2, xs_1, xs_2, xs_same, xq_so, xj_1, xj_2, xj_same, xq_jo, xq_sa1, xq_same, xq_other, upd_s, oI_n, oI_s, xv_0, xv_1, xv_2, xv_3, xm_p1, xm_p2, xq_fp, xq_fn, List.filter_nil, Nat.reduceBEq, Bool.not_true, Bool.not_false, Bool.and_true, Bool.and_false, Bool.false_and, Bool.true_and, if_true, if_false, Bool.false_eq_true, reduceIte, xc_i, xc_j, xc_r, xc_n, List.nil_append, List.cons_append, Option.toList_some, Option.toList_none, nI_ltJ, nI_leJ, nI_eqJ, nI_ltz, nI_gez, nI_gtz, nI_lez, nI_eqz, m1_ltz, m1_gez, true_imp_iff, false_imp_iff, true_and, and_true, ne_eq, not_false_eq_true, not_true_eq_false, Nat.reduceEqDiff, Nat.reduceLT, Nat.reduceLeDiff, q4, q8]
        exact xm_go_wk (by simp [Value.category]) hgety
      · have q4 : (s = 4) = False := eq_false (by omega)
        have q8 : (s = 8) = False := eq_false (by omega)
        have q9 : (s = 9) = True := eq_true q
        with_reducible refine xm_go_blk b_X2_readWords_91 k_X2_readWords_91 ?_
        refine by_putf cn_64 fl_2_73 (by first | exact rfl | assumption) (by decide) nf_2_3 ft_2_3 (by first | rfl | assumption) (by first | rfl | assumption) ?_
        refine by_aload_n rfl ?_
        refine by_lconst cl_0 ?_
        refine by_putf cn_64 fl_2_76 (by first | exact rfl | assumption) (by decide) nf_2_4 ft_2_4 (by first | rfl | assumption) (by first | rfl | assumption) ?_
        refine by_aload_n rfl ?_
        refine by_lconst cl_0 ?_
        refine by_putf cn_64 fl_2_79 (by first | exact rfl | assumption) (by decide) nf_2_5 ft_2_5 (by first | rfl | assumption) (by first | rfl | assumption) ?_
        refine by_aload_n rfl ?_
        refine by_lconst cl_0 ?_
        refine by_putf cn_64 fl_2_82 (by first | exact rfl | assumption) (by decide) nf_2_6 ft_2_6 (by first | rfl | assumption) (by first | rfl | assumption) ?_
        refine by_iload_n rfl ?_
        refine by_iconst ci_4 ?_
        refine by_ic_eq 131 rfl ?_
        simp (disch := first | exact Nat.ne_of_beq_eq_false rfl | exact rfl | omega) only [nI_add, xa_sub, xa_mul, pk_div, nm_mod, xa_shr, xa_and7, xa_and1, xa_and255, xa_by_and, nI_m1, Nat.add_sub_cancel, Nat.reducePow, Nat.zero_add, Nat.add_zero, Nat.reduceAdd, Nat.reduceMul, Nat.reduceSub, xf_same, xq_ff, xq_fo, xf_1, xf_2, xs_1, xs_2, xs_same, xq_so, xj_1, xj_2, xj_same, xq_jo, xq_sa1, xq_same, xq_other, upd_s, oI_n, oI_s, xv_0, xv_1, xv_2, xv_3, xm_p1, xm_p2, xq_fp, xq_fn, List.filter_nil, Nat.reduceBEq, Bool.not_true, Bool.not_false, Bool.and_true, Bool.and_false, Bool.false_and, Bool.true_and, if_true, if_false, Bool.false_eq_true, reduceIte, xc_i, xc_j, xc_r, xc_n, List.nil_append, List.cons_append, Option.toList_some, Option.toList_none, nI_ltJ, nI_leJ, nI_eqJ, nI_ltz, nI_gez, nI_gtz, nI_lez, nI_eqz, m1_ltz, m1_gez, true_imp_iff, false_imp_iff, true_and, and_true, ne_eq, not_false_eq_true, not_true_eq_false, Nat.reduceEqDiff, Nat.reduceLT, Nat.reduceLeDiff, q4, q8, q9]
        with_reducible refine xm_go_blk b_X2_readWords_114 k_X2_readWords_114 ?_
        refine by_iload_n rfl ?_
        refine by_bipush cb_8 ?_
        refine by_ic_eq 131 rfl ?_
        simp (disch := first | exact Nat.ne_of_beq_eq_false rfl | exact rfl | omega) only [nI_add, xa_sub, xa_mul, pk_div, nm_mod, xa_shr, xa_and7, xa_and1, xa_and255, xa_by_and, nI_m1, Nat.add_sub_cancel, Nat.reducePow, Nat.zero_add, Nat.add_zero, Nat.reduceAdd, Nat.reduceMul, Nat.reduceSub, xf_same, xq_ff, xq_fo, xf_1, xf_2, xs_1, xs_2, xs_same, xq_so, xj_1, xj_2, xj_same, xq_jo, xq_sa1, xq_same, xq_other, upd_s, oI_n, oI_s, xv_0, xv_1, xv_2, xv_3, xm_p1, xm_p2, xq_fp, xq_fn, List.filter_nil, Nat.reduceBEq, Bool.not_true, Bool.not_false, Bool.and_true, Bool.and_false, Bool.false_and, Bool.true_and, if_true, if_false, Bool.false_eq_true, reduceIte, xc_i, xc_j, xc_r, xc_n, List.nil_append, List.cons_append, Option.toList_some, Option.toList_none, nI_ltJ, nI_leJ, nI_eqJ, nI_ltz, nI_gez, nI_gtz, nI_lez, nI_eqz, m1_ltz, m1_gez, true_imp_iff, false_imp_iff, true_and, and_true, ne_eq, not_false_eq_true, not_true_eq_false, Nat.reduceEqDiff, Nat.reduceLT, Nat.reduceLeDiff, q4, q8, q9]
        with_reducible refine xm_go_blk b_X2_readWords_120 k_X2_readWords_120 ?_
        refine by_iload_n rfl ?_
        refine by_bipush cb_9 ?_
        refine by_ic_eq 131 rfl ?_
        simp (disch := first | exact Nat.ne_of_beq_eq_false rfl | exact rfl | omega) only [nI_add, xa_sub, xa_mul, pk_div, nm_mod, xa_shr, xa_and7, xa_and1, xa_and255, xa_by_and, nI_m1, Nat.add_sub_cancel, Nat.reducePow, Nat.zero_add, Nat.add_zero, Nat.reduceAdd, Nat.reduceMul, Nat.reduceSub, xf_same, xq_ff, xq_fo, xf_1, xf_2, xs_1, xs_2, xs_same, xq_so, xj_1, xj_2, xj_same, xq_jo, xq_sa1, xq_same, xq_other, upd_s, oI_n, oI_s, xv_0, xv_1, xv_2, xv_3, xm_p1, xm_p2, xq_fp, xq_fn, List.filter_nil, Nat.reduceBEq, Bool.not_true, Bool.not_false, Bool.and_true, Bool.and_false, Bool.false_and, Bool.true_and, if_true, if_false, Bool.false_eq_true, reduceIte, xc_i, xc_j, xc_r, xc_n, List.nil_append, List.cons_append, Option.toList_some, Option.toList_none, nI_ltJ, nI_leJ, nI_eqJ, nI_ltz, nI_gez, nI_gtz, nI_lez, nI_eqz, m1_ltz, m1_gez, true_imp_iff, false_imp_iff, true_and, and_true, ne_eq, not_false_eq_true, not_true_eq_false, Nat.reduceEqDiff, Nat.reduceLT, Nat.reduceLeDiff, q4, q8, q9]
        exact xm_go_wk (by simp [Value.category]) hgety
      · have q4 : (s = 4) = False := eq_false (by omega)
        have q8 : (s = 8) = False := eq_false (by omega)
        have q9 : (s = 9) = False := eq_false (by omega)
        have q5 : (s = 5) = True := eq_true q
        with_reducible refine xm_go_blk b_X2_readWords_91 k_X2_readWords_91 ?_
        refine by_putf cn_64 fl_2_73 (by first | exact rfl | assumption) (by decide) nf_2_3 ft_2_3 (by first | rfl | assumption) (by first | rfl | assumption) ?_
        refine by_aload_n rfl ?_
        refine by_lconst cl_0 ?_
        refine by_putf cn_64 fl_2_76 (by first | exact rfl | assumption) (by decide) nf_2_4 ft_2_4 (by first | rfl | assumption) (by first | rfl | assumption) ?_
        refine by_aload_n rfl ?_
        refine by_lconst cl_0 ?_
        refine by_putf cn_64 fl_2_79 (by first | exact rfl | assumption) (by decide) nf_2_5 ft_2_5 (by first | rfl | assumption) (by first | rfl | assumption) ?_
        refine by_aload_n rfl ?_
        refine by_lconst cl_0 ?_
        refine by_putf cn_64 fl_2_82 (by first | exact rfl | assumption) (by decide) nf_2_6 ft_2_6 (by first | rfl | assumption) (by first | rfl | assumption) ?_
        refine by_iload_n rfl ?_
        refine by_iconst ci_4 ?_
        refine by_ic_eq 131 rfl ?_
        simp (disch := first | exact Nat.ne_of_beq_eq_false rfl | exact rfl | omega) only [nI_add, xa_sub, xa_mul, pk_div, nm_mod, xa_shr, xa_and7, xa_and1, xa_and255, xa_by_and, nI_m1, Nat.add_sub_cancel, Nat.reducePow, Nat.zero_add, Nat.add_zero, Nat.reduceAdd, Nat.reduceMul, Nat.reduceSub, xf_same, xq_ff, xq_fo, xf_1, xf_2, xs_1, xs_2, xs_same, xq_so, xj_1, xj_2, xj_same, xq_jo, xq_sa1, xq_same, xq_other, upd_s, oI_n, oI_s, xv_0, xv_1, xv_2, xv_3, xm_p1, xm_p2, xq_fp, xq_fn, List.filter_nil, Nat.reduceBEq, Bool.not_true, Bool.not_false, Bool.and_true, Bool.and_false, Bool.false_and, Bool.true_and, if_true, if_false, Bool.false_eq_true, reduceIte, xc_i, xc_j, xc_r, xc_n, List.nil_append, List.cons_append, Option.toList_some, Option.toList_none, nI_ltJ, nI_leJ, nI_eqJ, nI_ltz, nI_gez, nI_gtz, nI_lez, nI_eqz, m1_ltz, m1_gez, true_imp_iff, false_imp_iff, true_and, and_true, ne_eq, not_false_eq_true, not_true_eq_false, Nat.reduceEqDiff, Nat.reduceLT, Nat.reduceLeDiff, q4, q8, q9, q5]
        with_reducible refine xm_go_blk b_X2_readWords_114 k_X2_readWords_114 ?_
        refine by_iload_n rfl ?_
        refine by_bipush cb_8 ?_
        refine by_ic_eq 131 rfl ?_
        simp (disch := first | exact Nat.ne_of_beq_eq_false rfl | exact rfl | omega) only [nI_add, xa_sub, xa_mul, pk_div, nm_mod, xa_shr, xa_and7, xa_and1, xa_and255, xa_by_and, nI_m1, Nat.add_sub_cancel, Nat.reducePow, Nat.zero_add, Nat.add_zero, Nat.reduceAdd, Nat.reduceMul, Nat.reduceSub, xf_same, xq_ff, xq_fo, xf_1, xf_2, xs_1, xs_2, xs_same, xq_so, xj_1, xj_2, xj_same, xq_jo, xq_sa1, xq_same, xq_other, upd_s, oI_n, oI_s, xv_0, xv_1, xv_2, xv_3, xm_p1, xm_p2, xq_fp, xq_fn, List.filter_nil, Nat.reduceBEq, Bool.not_true, Bool.not_false, Bool.and_true, Bool.and_false, Bool.false_and, Bool.true_and, if_true, if_false, Bool.false_eq_true, reduceIte, xc_i, xc_j, xc_r, xc_n, List.nil_append, List.cons_append, Option.toList_some, Option.toList_none, nI_ltJ, nI_leJ, nI_eqJ, nI_ltz, nI_gez, nI_gtz, nI_lez, nI_eqz, m1_ltz, m1_gez, true_imp_iff, false_imp_iff, true_and, and_true, ne_eq, not_false_eq_true, not_true_eq_false, Nat.reduceEqDiff, Nat.reduceLT, Nat.reduceLeDiff, q4, q8, q9, q5]
        with_reducible refine xm_go_blk b_X2_readWords_120 k_X2_readWords_120 ?_
        refine by_iload_n rfl ?_
        refine by_bipush cb_9 ?_
        refine by_ic_eq 131 rfl ?_
        simp (disch := first | exact Nat.ne_of_beq_eq_false rfl | exact rfl | omega) only [nI_add, xa_sub, xa_mul, pk_div, nm_mod, xa_shr, xa_and7, xa_and1, xa_and255, xa_by_and, nI_m1, Nat.add_sub_cancel, Nat.reducePow, Nat.zero_add, Nat.add_zero, Nat.reduceAdd, Nat.reduceMul, Nat.reduceSub, xf_same, xq_ff, xq_fo, xf_1, xf_2, xs_1, xs_2, xs_same, xq_so, xj_1, xj_2, xj_same, xq_jo, xq_sa1, xq_same, xq_other, upd_s, oI_n, oI_s, xv_0, xv_1, xv_2, xv_3, xm_p1, xm_p2, xq_fp, xq_fn, List.filter_nil, Nat.reduceBEq, Bool.not_true, Bool.not_false, Bool.and_true, Bool.and_false, Bool.false_and, Bool.true_and, if_true, if_false, Bool.false_eq_true, reduceIte, xc_i, xc_j, xc_r, xc_n, List.nil_append, List.cons_append, Option.toList_some, Option.toList_none, nI_ltJ, nI_leJ, nI_eqJ, nI_ltz, nI_gez, nI_gtz, nI_lez, nI_eqz, m1_ltz, m1_gez, true_imp_iff, false_imp_iff, true_and, and_true, ne_eq, not_false_eq_true, not_true_eq_false, Nat.reduceEqDiff, Nat.reduceLT, Nat.reduceLeDiff, q4, q8, q9, q5]
        with_reducible refine xm_go_blk b_X2_readWords_126 k_X2_readWords_126 ?_
        refine by_iload_n rfl ?_
        refine by_iconst ci_5 ?_
        refine by_ic_ne 150 rfl ?_
        simp (disch := first | exact Nat.ne_of_beq_eq_false rfl | exact rfl | omega) only [nI_add, xa_sub, xa_mul, pk_div, nm_mod, xa_shr, xa_and7, xa_and1, xa_and255, xa_by_and, nI_m1, Nat.add_sub_cancel, Nat.reducePow, Nat.zero_add, Nat.add_zero, Nat.reduceAdd, Nat.reduceMul, Nat.reduceSub, xf_same, xq_ff, xq_fo, xf_1, xf_2, xs_1, xs_2, xs_same, xq_so, xj_1, xj_2, xj_same, xq_jo, xq_sa1, xq_same, xq_other, upd_s, oI_n, oI_s, xv_0, xv_1, xv_2, xv_3, xm_p1, xm_p2, xq_fp, xq_fn, List.filter_nil, Nat.reduceBEq, Bool.not_true, Bool.not_false, Bool.and_true, Bool.and_false, Bool.false_and, Bool.true_and, if_true, if_false, Bool.false_eq_true, reduceIte, xc_i, xc_j, xc_r, xc_n, List.nil_append, List.cons_append, Option.toList_some, Option.toList_none, nI_ltJ, nI_leJ, nI_eqJ, nI_ltz, nI_gez, nI_gtz, nI_lez, nI_eqz, m1_ltz, m1_gez, true_imp_iff, false_imp_iff, true_and, and_true, ne_eq, not_false_eq_true, not_true_eq_false, Nat.reduceEqDiff, Nat.reduceLT, Nat.reduceLeDiff, q4, q8, q9, q5]
        exact xm_go_wk (by simp [Value.category]) hgety
    · have q4 : (s = 4) = False := eq_false (by omega)
      have q8 : (s = 8) = False := eq_false (by omega)
      have q9 : (s = 9) = False := eq_false (by omega)
      have q5 : (s = 5) = False := eq_false (by omega)
      with_reducible refine xm_go_blk b_X2_readWords_91 k_X2_readWords_91 ?_
      refine by_putf cn_64 fl_2_73 (by first | exact rfl | assumption) (by decide) nf_2_3 ft_2_3 (by first | rfl | assumption) (by first | rfl | assumption) ?_
      refine by_aload_n rfl ?_
      refine by_lconst cl_0 ?_
      refine by_putf cn_64 fl_2_76 (by first | exact rfl | assumption) (by decide) nf_2_4 ft_2_4 (by first | rfl | assumption) (by first | rfl | assumption) ?_
      refine by_aload_n rfl ?_
      refine by_lconst cl_0 ?_
      refine by_putf cn_64 fl_2_79 (by first | exact rfl | assumption) (by decide) nf_2_5 ft_2_5 (by first | rfl | assumption) (by first | rfl | assumption) ?_
      refine by_aload_n rfl ?_
      refine by_lconst cl_0 ?_
      refine by_putf cn_64 fl_2_82 (by first | exact rfl | assumption) (by decide) nf_2_6 ft_2_6 (by first | rfl | assumption) (by first | rfl | assumption) ?_
      refine by_iload_n rfl ?_
      refine by_iconst ci_4 ?_
      refine by_ic_eq 131 rfl ?_
      simp (disch := first | exact Nat.ne_of_beq_eq_false rfl | exact rfl | omega) only [nI_add, xa_sub, xa_mul, pk_div, nm_mod, xa_shr, xa_and7, xa_and1, xa_and255, xa_by_and, nI_m1, Nat.add_sub_cancel, Nat.reducePow, Nat.zero_add, Nat.add_zero, Nat.reduceAdd, Nat.reduceMul, Nat.reduceSub, xf_same, xq_ff, xq_fo, xf_1, xf_2, xs_1, xs_2, xs_same, xq_so, xj_1, xj_2, xj_same, xq_jo, xq_sa1, xq_same, xq_other, upd_s, oI_n, oI_s, xv_0, xv_1, xv_2, xv_3, xm_p1, xm_p2, xq_fp, xq_fn, List.filter_nil, Nat.reduceBEq, Bool.not_true, Bool.not_false, Bool.and_true, Bool.and_false, Bool.false_and, Bool.true_and, if_true, if_false, Bool.false_eq_true, reduceIte, xc_i, xc_j, xc_r, xc_n, List.nil_append, List.cons_append, Option.toList_some, Option.toList_none, nI_ltJ, nI_leJ, nI_eqJ, nI_ltz, nI_gez, nI_gtz, nI_lez, nI_eqz, m1_ltz, m1_gez, true_imp_iff, false_imp_iff, true_and, and_true, ne_eq, not_false_eq_true, not_true_eq_false, Nat.reduceEqDiff, Nat.reduceLT, Nat.reduceLeDiff, q4, q8, q9, q5]
      with_reducible refine xm_go_blk b_X2_readWords_114 k_X2_readWords_114 ?_
      refine by_iload_n rfl ?_
      refine by_bipush cb_8 ?_
      refine by_ic_eq 131 rfl ?_
      simp (disch := first | exact Nat.ne_of_beq_eq_false rfl | exact rfl | omega) only [nI_add, xa_sub, xa_mul, pk_div, nm_mod, xa_shr, xa_and7, xa_and1, xa_and255, xa_by_and, nI_m1, Nat.add_sub_cancel, Nat.reducePow, Nat.zero_add, Nat.add_zero, Nat.reduceAdd, Nat.reduceMul, Nat.reduceSub, xf_same, xq_ff, xq_fo, xf_1, xf_2, xs_1, xs_2, xs_same, xq_so, xj_1, xj_2, xj_same, xq_jo, xq_sa1, xq_same, xq_other, upd_s, oI_n, oI_s, xv_0, xv_1, xv_2, xv_3, xm_p1, xm_p2, xq_fp, xq_fn, List.filter_nil, Nat.reduceBEq, Bool.not_true, Bool.not_false, Bool.and_true, Bool.and_false, Bool.false_and, Bool.true_and, if_true, if_false, Bool.false_eq_true, reduceIte, xc_i, xc_j, xc_r, xc_n, List.nil_append, List.cons_append, Option.toList_some, Option.toList_none, nI_ltJ, nI_leJ, nI_eqJ, nI_ltz, nI_gez, nI_gtz, nI_lez, nI_eqz, m1_ltz, m1_gez, true_imp_iff, false_imp_iff, true_and, and_true, ne_eq, not_false_eq_true, not_true_eq_false, Nat.reduceEqDiff, Nat.reduceLT, Nat.reduceLeDiff, q4, q8, q9, q5]
      with_reducible refine xm_go_blk b_X2_readWords_120 k_X2_readWords_120 ?_
      refine by_iload_n rfl ?_
      refine by_bipush cb_9 ?_
      refine by_ic_eq 131 rfl ?_
      simp (disch := first | exact Nat.ne_of_beq_eq_false rfl | exact rfl | omega) only [nI_add, xa_sub, xa_mul, pk_div, nm_mod, xa_shr, xa_and7, xa_and1, xa_and255, xa_by_and, nI_m1, Nat.add_sub_cancel, Nat.reducePow, Nat.zero_add, Nat.add_zero, Nat.reduceAdd, Nat.reduceMul, Nat.reduceSub, xf_same, xq_ff, xq_fo, xf_1, xf_2, xs_1, xs_2, xs_same, xq_so, xj_1, xj_2, xj_same, xq_jo, xq_sa1, xq_same, xq_other, upd_s, oI_n, oI_s, xv_0, xv_1, xv_2, xv_3, xm_p1, xm_p2, xq_fp, xq_fn, List.filter_nil, Nat.reduceBEq, Bool.not_true, Bool.not_false, Bool.and_true, Bool.and_false, Bool.false_and, Bool.true_and, if_true, if_false, Bool.false_eq_true, reduceIte, xc_i, xc_j, xc_r, xc_n, List.nil_append, List.cons_append, Option.toList_some, Option.toList_none, nI_ltJ, nI_leJ, nI_eqJ, nI_ltz, nI_gez, nI_gtz, nI_lez, nI_eqz, m1_ltz, m1_gez, true_imp_iff, false_imp_iff, true_and, and_true, ne_eq, not_false_eq_true, not_true_eq_false, Nat.reduceEqDiff, Nat.reduceLT, Nat.reduceLeDiff, q4, q8, q9, q5]
      with_reducible refine xm_go_blk b_X2_readWords_126 k_X2_readWords_126 ?_
      refine by_iload_n rfl ?_
      refine by_iconst ci_5 ?_
      refine by_ic_ne 150 rfl ?_
      simp (disch := first | exact Nat.ne_of_beq_eq_false rfl | exact rfl | omega) only [nI_add, xa_sub, xa_mul, pk_div, nm_mod, xa_shr, xa_and7, xa_and1, xa_and255, xa_by_and, nI_m1, Nat.add_sub_cancel, Nat.reducePow, Nat.zero_add, Nat.add_zero, Nat.reduceAdd, Nat.reduceMul, Nat.reduceSub, xf_same, xq_ff, xq_fo, xf_1, xf_2, xs_1, xs_2, xs_same, xq_so, xj_1, xj_2, xj_same, xq_jo, xq_sa1, xq_same, xq_other, upd_s, oI_n, oI_s, xv_0, xv_1, xv_2, xv_3, xm_p1, xm_p2, xq_fp, xq_fn, List.filter_nil, Nat.reduceBEq, Bool.not_true, Bool.not_false, Bool.and_true, Bool.and_false, Bool.false_and, Bool.true_and, if_true, if_false, Bool.false_eq_true, reduceIte, xc_i, xc_j, xc_r, xc_n, List.nil_append, List.cons_append, Option.toList_some, Option.toList_none, nI_ltJ, nI_leJ, nI_eqJ, nI_ltz, nI_gez, nI_gtz, nI_lez, nI_eqz, m1_ltz, m1_gez, true_imp_iff, false_imp_iff, true_and, and_true, ne_eq, not_false_eq_true, not_true_eq_false, Nat.reduceEqDiff, Nat.reduceLT, Nat.reduceLeDiff, q4, q8, q9, q5]
      with_reducible refine xm_go_blk b_X2_readWords_150 k_X2_readWords_150 ?_
      refine by_iload_n rfl ?_
      refine by_bipush cb_9 ?_
      refine by_ic_eq 161 rfl ?_
      simp (disch := first | exact Nat.ne_of_beq_eq_false rfl | exact rfl | omega) only [nI_add, xa_sub, xa_mul, pk_div, nm_mod, xa_shr, xa_and7, xa_and1, xa_and255, xa_by_and, nI_m1, Nat.add_sub_cancel, Nat.reducePow, Nat.zero_add, Nat.add_zero, Nat.reduceAdd, Nat.reduceMul, Nat.reduceSub, xf_same, xq_ff, xq_fo, xf_1, xf_2, xs_1, xs_2, xs_same, xq_so, xj_1, xj_2, xj_same, xq_jo, xq_sa1, xq_same, xq_other, upd_s, oI_n, oI_s, xv_0, xv_1, xv_2, xv_3, xm_p1, xm_p2, xq_fp, xq_fn, List.filter_nil, Nat.reduceBEq, Bool.not_true, Bool.not_false, Bool.and_true, Bool.and_false, Bool.false_and, Bool.true_and, if_true, if_false, Bool.false_eq_true, reduceIte, xc_i, xc_j, xc_r, xc_n, List.nil_append, List.cons_append, Option.toList_some, Option.toList_none, nI_ltJ, nI_leJ, nI_eqJ, nI_ltz, nI_gez, nI_gtz, nI_lez, nI_eqz, m1_ltz, m1_gez, true_imp_iff, false_imp_iff, true_and, and_true, ne_eq, not_false_eq_true, not_true_eq_false, Nat.reduceEqDiff, Nat.reduceLT, Nat.reduceLeDiff, q4, q8, q9, q5]
      with_reducible refine xm_go_blk b_X2_readWords_156 k_X2_readWords_156 ?_
      refine by_iload_n rfl ?_
      refine by_iconst ci_5 ?_
      refine by_ic_ne 182 rfl ?_
      simp (disch := first | exact Nat.ne_of_beq_eq_false rfl | exact rfl | omega) only [nI_add, xa_sub, xa_mul, pk_div, nm_mod, xa_shr, xa_and7, xa_and1, xa_and255, xa_by_and, nI_m1, Nat.add_sub_cancel, Nat.reducePow, Nat.zero_add, Nat.add_zero, Nat.reduceAdd, Nat.reduceMul, Nat.reduceSub, xf_same, xq_ff, xq_fo, xf_1, xf_2, xs_1, xs_2, xs_same, xq_so, xj_1, xj_2, xj_same, xq_jo, xq_sa1, xq_same, xq_other, upd_s, oI_n, oI_s, xv_0, xv_1, xv_2, xv_3, xm_p1, xm_p2, xq_fp, xq_fn, List.filter_nil, Nat.reduceBEq, Bool.not_true, Bool.not_false, Bool.and_true, Bool.and_false, Bool.false_and, Bool.true_and, if_true, if_false, Bool.false_eq_true, reduceIte, xc_i, xc_j, xc_r, xc_n, List.nil_append, List.cons_append, Option.toList_some, Option.toList_none, nI_ltJ, nI_leJ, nI_eqJ, nI_ltz, nI_gez, nI_gtz, nI_lez, nI_eqz, m1_ltz, m1_gez, true_imp_iff, false_imp_iff, true_and, and_true, ne_eq, not_false_eq_true, not_true_eq_false, Nat.reduceEqDiff, Nat.reduceLT, Nat.reduceLeDiff, q4, q8, q9, q5]
      with_reducible refine xm_go_blk b_X2_readWords_182 k_X2_readWords_182 ?_
      refine by_iload_n rfl ?_
      refine by_iconst ci_5 ?_
      refine by_ic_ne 208 rfl ?_
      simp (disch := first | exact Nat.ne_of_beq_eq_false rfl | exact rfl | omega) only [nI_add, xa_sub, xa_mul, pk_div, nm_mod, xa_shr, xa_and7, xa_and1, xa_and255, xa_by_and, nI_m1, Nat.add_sub_cancel, Nat.reducePow, Nat.zero_add, Nat.add_zero, Nat.reduceAdd, Nat.reduceMul, Nat.reduceSub, xf_same, xq_ff, xq_fo, xf_1, xf_2, xs_1, xs_2, xs_same, xq_so, xj_1, xj_2, xj_same, xq_jo, xq_sa1, xq_same, xq_other, upd_s, oI_n, oI_s, xv_0, xv_1, xv_2, xv_3, xm_p1, xm_p2, xq_fp, xq_fn, List.filter_nil, Nat.reduceBEq, Bool.not_true, Bool.not_false, Bool.and_true, Bool.and_false, Bool.false_and, Bool.true_and, if_true, if_false, Bool.false_eq_true, reduceIte, xc_i, xc_j, xc_r, xc_n, List.nil_append, List.cons_append, Option.toList_some, Option.toList_none, nI_ltJ, nI_leJ, nI_eqJ, nI_ltz, nI_gez, nI_gtz, nI_lez, nI_eqz, m1_ltz, m1_gez, true_imp_iff, false_imp_iff, true_and, and_true, ne_eq, not_false_eq_true, not_true_eq_false, Nat.reduceEqDiff, Nat.reduceLT, Nat.reduceLeDiff, q4, q8, q9, q5]
      with_reducible refine xm_go_blk b_X2_readWords_208 k_X2_readWords_208 ?_
      refine by_ret ry_64 ?_
      exact hp g fg g2 g3 (by rw [ny qy]; exact g4) (by rw [nz (by omega)]; exact g5) (by rw [nv (by omega)]; exact g6)
  have f1 : Fr [] jrT h (xm_sf h 39 2 (.int (nI 0))) := Fr_sf Fr_rf (by simp [jrT])
  have F1 := Fr_XF hF f1 (by decide +kernel)
  have w1 : (xm_sf h 39 2 (.int (nI 0))).2.2 39 0 = .int (nI w) := by rw [← h0]; simp [xm_sf, updV]
  have m1 : mB (xm_sf h 39 2 (.int (nI 0))) = mB h := rfl
  -- x of a whole word
  have xw : ∀ (at' : Nat) (h2 : xm_H), at' = f + jAt s → s ≠ 0 → s ≠ 2 → XF h2 → Fr [] jrT h h2 → h2.2.2 39 2 = .int (nI (jc (mc_sh (mB h) f) s)) → xm_go (XE sc) (xm_T (XE sc) (d + 1)) 64 post 54 [(4, .int (nI at')), (0, .ref 39), (1, .int (nI s)), (2, .ref 32), (3, .int (nI f))] [] h2 := by
    intro at' h2 hat n0 n2 F2 f2 e2
    have q2 : (s = 2) = False := eq_false n2
    have q0 : (s = 0) = False := eq_false n0
    have w2 : h2.2.2 39 0 = .int (nI w) := by rw [f2.2.2 _ _ (by simp [jrT])]; exact h0
    have hAt : jAt s ≤ 8 := by unfold jAt; split <;> (try split) <;> omega
    have hA5 : s = 5 → jAt s = 0 := fun q => by unfold jAt; rw [if_neg (by omega), if_neg (by omega)]
    with_reducible refine xm_go_blk b_X2_readWords_54 k_X2_readWords_54 ?_
    refine by_iload_n rfl ?_
    refine by_iconst ci_2 ?_
    refine by_ic_ne 68 rfl ?_
    simp (disch := first | exact Nat.ne_of_beq_eq_false rfl | exact rfl | omega) only [nI_add, xa_sub, xa_mul, pk_div, nm_mod, xa_shr, xa_and7, xa_and1, xa_and255, xa_by_and, nI_m1, Nat.add_sub_cancel, Nat.reducePow, Nat.zero_add, Nat.add_zero, Nat.reduceAdd, Nat.reduceMul, Nat.reduceSub, xf_same, xq_ff, xq_fo, xf_1, xf_2, xs_1, xs_2, xs_same, xq_so, xj_1, xj_2, xj_same, xq_jo, xq_sa1, xq_same, xq_other, upd_s, oI_n, oI_s, xv_0, xv_1, xv_2, xv_3, xm_p1, xm_p2, xq_fp, xq_fn, List.filter_nil, Nat.reduceBEq, Bool.not_true, Bool.not_false, Bool.and_true, Bool.and_false, Bool.false_and, Bool.true_and, if_true, if_false, Bool.false_eq_true, reduceIte, xc_i, xc_j, xc_r, xc_n, List.nil_append, List.cons_append, Option.toList_some, Option.toList_none, nI_ltJ, nI_leJ, nI_eqJ, nI_ltz, nI_gez, nI_gtz, nI_lez, nI_eqz, m1_ltz, m1_gez, true_imp_iff, false_imp_iff, true_and, and_true, ne_eq, not_false_eq_true, not_true_eq_false, Nat.reduceEqDiff, Nat.reduceLT, Nat.reduceLeDiff, q2, q0, w2]
    with_reducible refine xm_go_blk b_X2_readWords_68 k_X2_readWords_68 ?_
    refine by_aload_n rfl ?_
    refine by_getf cn_64 fl_2_7 (by first | exact rfl | assumption) (by decide) ?_
    refine by_nil ?_
    try simp (disch := first | exact Nat.ne_of_beq_eq_false rfl | exact rfl | omega) only [nI_add, xa_sub, xa_mul, pk_div, nm_mod, xa_shr, xa_and7, xa_and1, xa_and255, xa_by_and, nI_m1, Nat.add_sub_cancel, Nat.reducePow, Nat.zero_add, Nat.add_zero, Nat.reduceAdd, Nat.reduceMul, Nat.reduceSub, xf_same, xq_ff, xq_fo, xf_1, xf_2, xs_1, xs_2, xs_same, xq_so, xj_1, xj_2, xj_same, xq_jo, xq_sa1, xq_same, xq_other, upd_s, oI_n, oI_s, xv_0, xv_1, xv_2, xv_3, xm_p1, xm_p2, xq_fp, xq_fn, List.filter_nil, Nat.reduceBEq, Bool.not_true, Bool.not_false, Bool.and_true, Bool.and_false, Bool.false_and, Bool.true_and, if_true, if_false, Bool.false_eq_true, reduceIte, xc_i, xc_j, xc_r, xc_n, List.nil_append, List.cons_append, Option.toList_some, Option.toList_none, q2, q0, w2]
    with_reducible refine xm_go_blk b_X2_readWords_72 k_X2_readWords_72 ?_
    refine by_istore (by rw [ml_64]; decide) ?_
    refine by_aload_n rfl ?_
    refine by_iload_n rfl ?_
    refine by_if_ne 83 rfl ?_
    simp (disch := first | exact Nat.ne_of_beq_eq_false rfl | exact rfl | omega) only [nI_add, xa_sub, xa_mul, pk_div, nm_mod, xa_shr, xa_and7, xa_and1, xa_and255, xa_by_and, nI_m1, Nat.add_sub_cancel, Nat.reducePow, Nat.zero_add, Nat.add_zero, Nat.reduceAdd, Nat.reduceMul, Nat.reduceSub, xf_same, xq_ff, xq_fo, xf_1, xf_2, xs_1, xs_2, xs_same, xq_so, xj_1, xj_2, xj_same, xq_jo, xq_sa1, xq_same, xq_other, upd_s, oI_n, oI_s, xv_0, xv_1, xv_2, xv_3, xm_p1, xm_p2, xq_fp, xq_fn, List.filter_nil, Nat.reduceBEq, Bool.not_true, Bool.not_false, Bool.and_true, Bool.and_false, Bool.false_and, Bool.true_and, if_true, if_false, Bool.false_eq_true, reduceIte, xc_i, xc_j, xc_r, xc_n, List.nil_append, List.cons_append, Option.toList_some, Option.toList_none, nI_ltJ, nI_leJ, nI_eqJ, nI_ltz, nI_gez, nI_gtz, nI_lez, nI_eqz, m1_ltz, m1_gez, true_imp_iff, false_imp_iff, true_and, and_true, ne_eq, not_false_eq_true, not_true_eq_false, Nat.reduceEqDiff, Nat.reduceLT, Nat.reduceLeDiff, q2, q0, w2]
    with_reducible refine xm_go_blk b_X2_readWords_83 k_X2_readWords_83 ?_
    refine by_aload_n rfl ?_
    refine by_iload rfl ?_
    refine by_iload rfl ?_
    refine by_inv2 cn_64 lk_2_67 (by rw [xe_cnt]; decide) is_83 np_83 cn_83 (by first | exact rfl | assumption) (Nat.le_of_ble_eq_true rfl) ?_
    have wx := hWB.1 n0 n2
    refine sp_get F2 (by omega) (by omega) (by omega) ?_
    exact xm_go_wk (by simp [Value.category]) (tail at' _ h2 hat (by rw [mB_fr f2 (by simp)]; unfold jx; rw [if_neg n0, if_neg n2, mc_n_sh, hat]) f2 e2)
  refine xq_in rfl ?_
  simp only [xq_a0, xq_aI, xq_aJ, xq_aR, Nat.reduceAdd]
  have c0 : s ≠ 8 → s ≠ 10 → jc (mc_sh (mB h) f) s = 0 := fun a b => by unfold jc jAt; rw [if_neg a, if_neg b]; exact mc_n_0 _ _
  have a0 : s ≠ 8 → s ≠ 10 → f = f + jAt s := fun a b => by unfold jAt; rw [if_neg a, if_neg b]; rfl
  have e02 : s ≠ 8 → s ≠ 10 → (xm_sf h 39 2 (.int (nI 0))).2.2 39 2 = .int (nI (jc (mc_sh (mB h) f) s)) := fun a b => by rw [c0 a b]; simp [xm_sf, updV]
  rcases hs with rfl | rfl | rfl | rfl | rfl | rfl | rfl | rfl
  · with_reducible refine xm_go_blk b_X2_readWords_0 k_X2_readWords_0 ?_
    refine by_iload_n rfl ?_
    refine by_istore (by rw [ml_64]; decide) ?_
    refine by_aload_n rfl ?_
    refine by_iconst ci_0 ?_
    refine by_putf cn_64 fl_2_64 (by first | exact rfl | assumption) (by decide) nf_2_2 ft_2_2 (by first | rfl | assumption) (by first | rfl | assumption) ?_
    refine by_iload_n rfl ?_
    refine by_bipush cb_8 ?_
    refine by_ic_ne 32 rfl ?_
    simp (disch := first | exact Nat.ne_of_beq_eq_false rfl | exact rfl | omega) only [nI_add, xa_sub, xa_mul, pk_div, nm_mod, xa_shr, xa_and7, xa_and1, xa_and255, xa_by_and, nI_m1, Nat.add_sub_cancel, Nat.reducePow, Nat.zero_add, Nat.add_zero, Nat.reduceAdd, Nat.reduceMul, Nat.reduceSub, xf_same, xq_ff, xq_fo, xf_1, xf_2, xs_1, xs_2, xs_same, xq_so, xj_1, xj_2, xj_same, xq_jo, xq_sa1, xq_same, xq_other, upd_s, oI_n, oI_s, xv_0, xv_1, xv_2, xv_3, xm_p1, xm_p2, xq_fp, xq_fn, List.filter_nil, Nat.reduceBEq, Bool.not_true, Bool.not_false, Bool.and_true, Bool.and_false, Bool.false_and, Bool.true_and, if_true, if_false, Bool.false_eq_true, reduceIte, xc_i, xc_j, xc_r, xc_n, List.nil_append, List.cons_append, Option.toList_some, Option.toList_none, nI_ltJ, nI_leJ, nI_eqJ, nI_ltz, nI_gez, nI_gtz, nI_lez, nI_eqz, m1_ltz, m1_gez, true_imp_iff, false_imp_iff, true_and, and_true, ne_eq, not_false_eq_true, not_true_eq_false, Nat.reduceEqDiff, Nat.reduceLT, Nat.reduceLeDiff, h0]
    with_reducible refine xm_go_blk b_X2_readWords_32 k_X2_readWords_32 ?_
    refine by_iload_n rfl ?_
    refine by_bipush cb_10 ?_
    refine by_ic_ne 54 rfl ?_
    simp (disch := first | exact Nat.ne_of_beq_eq_false rfl | exact rfl | omega) only [nI_add, xa_sub, xa_mul, pk_div, nm_mod, xa_shr, xa_and7, xa_and1, xa_and255, xa_by_and, nI_m1, Nat.add_sub_cancel, Nat.reducePow, Nat.zero_add, Nat.add_zero, Nat.reduceAdd, Nat.reduceMul, Nat.reduceSub, xf_same, xq_ff, xq_fo, xf_1, xf_2, xs_1, xs_2, xs_same, xq_so, xj_1, xj_2, xj_same, xq_jo, xq_sa1, xq_same, xq_other, upd_s, oI_n, oI_s, xv_0, xv_1, xv_2, xv_3, xm_p1, xm_p2, xq_fp, xq_fn, List.filter_nil, Nat.reduceBEq, Bool.not_true, Bool.not_false, Bool.and_true, Bool.and_false, Bool.false_and, Bool.true_and, if_true, if_false, Bool.false_eq_true, reduceIte, xc_i, xc_j, xc_r, xc_n, List.nil_append, List.cons_append, Option.toList_some, Option.toList_none, nI_ltJ, nI_leJ, nI_eqJ, nI_ltz, nI_gez, nI_gtz, nI_lez, nI_eqz, m1_ltz, m1_gez, true_imp_iff, false_imp_iff, true_and, and_true, ne_eq, not_false_eq_true, not_true_eq_false, Nat.reduceEqDiff, Nat.reduceLT, Nat.reduceLeDiff, h0]
    with_reducible refine xm_go_blk b_X2_readWords_54 k_X2_readWords_54 ?_
    refine by_iload_n rfl ?_
    refine by_iconst ci_2 ?_
    refine by_ic_ne 68 rfl ?_
    simp (disch := first | exact Nat.ne_of_beq_eq_false rfl | exact rfl | omega) only [nI_add, xa_sub, xa_mul, pk_div, nm_mod, xa_shr, xa_and7, xa_and1, xa_and255, xa_by_and, nI_m1, Nat.add_sub_cancel, Nat.reducePow, Nat.zero_add, Nat.add_zero, Nat.reduceAdd, Nat.reduceMul, Nat.reduceSub, xf_same, xq_ff, xq_fo, xf_1, xf_2, xs_1, xs_2, xs_same, xq_so, xj_1, xj_2, xj_same, xq_jo, xq_sa1, xq_same, xq_other, upd_s, oI_n, oI_s, xv_0, xv_1, xv_2, xv_3, xm_p1, xm_p2, xq_fp, xq_fn, List.filter_nil, Nat.reduceBEq, Bool.not_true, Bool.not_false, Bool.and_true, Bool.and_false, Bool.false_and, Bool.true_and, if_true, if_false, Bool.false_eq_true, reduceIte, xc_i, xc_j, xc_r, xc_n, List.nil_append, List.cons_append, Option.toList_some, Option.toList_none, nI_ltJ, nI_leJ, nI_eqJ, nI_ltz, nI_gez, nI_gtz, nI_lez, nI_eqz, m1_ltz, m1_gez, true_imp_iff, false_imp_iff, true_and, and_true, ne_eq, not_false_eq_true, not_true_eq_false, Nat.reduceEqDiff, Nat.reduceLT, Nat.reduceLeDiff, h0]
    with_reducible refine xm_go_blk b_X2_readWords_68 k_X2_readWords_68 ?_
    refine by_aload_n rfl ?_
    refine by_getf cn_64 fl_2_7 (by first | exact rfl | assumption) (by decide) ?_
    refine by_nil ?_
    try simp (disch := first | exact Nat.ne_of_beq_eq_false rfl | exact rfl | omega) only [nI_add, xa_sub, xa_mul, pk_div, nm_mod, xa_shr, xa_and7, xa_and1, xa_and255, xa_by_and, nI_m1, Nat.add_sub_cancel, Nat.reducePow, Nat.zero_add, Nat.add_zero, Nat.reduceAdd, Nat.reduceMul, Nat.reduceSub, xf_same, xq_ff, xq_fo, xf_1, xf_2, xs_1, xs_2, xs_same, xq_so, xj_1, xj_2, xj_same, xq_jo, xq_sa1, xq_same, xq_other, upd_s, oI_n, oI_s, xv_0, xv_1, xv_2, xv_3, xm_p1, xm_p2, xq_fp, xq_fn, List.filter_nil, Nat.reduceBEq, Bool.not_true, Bool.not_false, Bool.and_true, Bool.and_false, Bool.false_and, Bool.true_and, if_true, if_false, Bool.false_eq_true, reduceIte, xc_i, xc_j, xc_r, xc_n, List.nil_append, List.cons_append, Option.toList_some, Option.toList_none, h0]
    with_reducible refine xm_go_blk b_X2_readWords_72 k_X2_readWords_72 ?_
    refine by_istore (by rw [ml_64]; decide) ?_
    refine by_aload_n rfl ?_
    refine by_iload_n rfl ?_
    refine by_if_ne 83 rfl ?_
    simp (disch := first | exact Nat.ne_of_beq_eq_false rfl | exact rfl | omega) only [nI_add, xa_sub, xa_mul, pk_div, nm_mod, xa_shr, xa_and7, xa_and1, xa_and255, xa_by_and, nI_m1, Nat.add_sub_cancel, Nat.reducePow, Nat.zero_add, Nat.add_zero, Nat.reduceAdd, Nat.reduceMul, Nat.reduceSub, xf_same, xq_ff, xq_fo, xf_1, xf_2, xs_1, xs_2, xs_same, xq_so, xj_1, xj_2, xj_same, xq_jo, xq_sa1, xq_same, xq_other, upd_s, oI_n, oI_s, xv_0, xv_1, xv_2, xv_3, xm_p1, xm_p2, xq_fp, xq_fn, List.filter_nil, Nat.reduceBEq, Bool.not_true, Bool.not_false, Bool.and_true, Bool.and_false, Bool.false_and, Bool.true_and, if_true, if_false, Bool.false_eq_true, reduceIte, xc_i, xc_j, xc_r, xc_n, List.nil_append, List.cons_append, Option.toList_some, Option.toList_none, nI_ltJ, nI_leJ, nI_eqJ, nI_ltz, nI_gez, nI_gtz, nI_lez, nI_eqz, m1_ltz, m1_gez, true_imp_iff, false_imp_iff, true_and, and_true, ne_eq, not_false_eq_true, not_true_eq_false, Nat.reduceEqDiff, Nat.reduceLT, Nat.reduceLeDiff, h0]
    with_reducible refine xm_go_blk b_X2_readWords_79 k_X2_readWords_79 ?_
    refine by_lconst cl_0 ?_
    refine by_goto 91 rfl ?_
    exact xm_go_wk (by simp [Value.category]) (tail f 0 _ rfl rfl f1 (e02 (by decide) (by decide)))
  · with_reducible refine xm_go_blk b_X2_readWords_0 k_X2_readWords_0 ?_
    refine by_iload_n rfl ?_
    refine by_istore (by rw [ml_64]; decide) ?_
    refine by_aload_n rfl ?_
    refine by_iconst ci_0 ?_
    refine by_putf cn_64 fl_2_64 (by first | exact rfl | assumption) (by decide) nf_2_2 ft_2_2 (by first | rfl | assumption) (by first | rfl | assumption) ?_
    refine by_iload_n rfl ?_
    refine by_bipush cb_8 ?_
    refine by_ic_ne 32 rfl ?_
    simp (disch := first | exact Nat.ne_of_beq_eq_false rfl | exact rfl | omega) only [nI_add, xa_sub, xa_mul, pk_div, nm_mod, xa_shr, xa_and7, xa_and1, xa_and255, xa_by_and, nI_m1, Nat.add_sub_cancel, Nat.reducePow, Nat.zero_add, Nat.add_zero, Nat.reduceAdd, Nat.reduceMul, Nat.reduceSub, xf_same, xq_ff, xq_fo, xf_1, xf_2, xs_1, xs_2, xs_same, xq_so, xj_1, xj_2, xj_same, xq_jo, xq_sa1, xq_same, xq_other, upd_s, oI_n, oI_s, xv_0, xv_1, xv_2, xv_3, xm_p1, xm_p2, xq_fp, xq_fn, List.filter_nil, Nat.reduceBEq, Bool.not_true, Bool.not_false, Bool.and_true, Bool.and_false, Bool.false_and, Bool.true_and, if_true, if_false, Bool.false_eq_true, reduceIte, xc_i, xc_j, xc_r, xc_n, List.nil_append, List.cons_append, Option.toList_some, Option.toList_none, nI_ltJ, nI_leJ, nI_eqJ, nI_ltz, nI_gez, nI_gtz, nI_lez, nI_eqz, m1_ltz, m1_gez, true_imp_iff, false_imp_iff, true_and, and_true, ne_eq, not_false_eq_true, not_true_eq_false, Nat.reduceEqDiff, Nat.reduceLT, Nat.reduceLeDiff, h0]
    with_reducible refine xm_go_blk b_X2_readWords_32 k_X2_readWords_32 ?_
    refine by_iload_n rfl ?_
    refine by_bipush cb_10 ?_
    refine by_ic_ne 54 rfl ?_
    simp (disch := first | exact Nat.ne_of_beq_eq_false rfl | exact rfl | omega) only [nI_add, xa_sub, xa_mul, pk_div, nm_mod, xa_shr, xa_and7, xa_and1, xa_and255, xa_by_and, nI_m1, Nat.add_sub_cancel, Nat.reducePow, Nat.zero_add, Nat.add_zero, Nat.reduceAdd, Nat.reduceMul, Nat.reduceSub, xf_same, xq_ff, xq_fo, xf_1, xf_2, xs_1, xs_2, xs_same, xq_so, xj_1, xj_2, xj_same, xq_jo, xq_sa1, xq_same, xq_other, upd_s, oI_n, oI_s, xv_0, xv_1, xv_2, xv_3, xm_p1, xm_p2, xq_fp, xq_fn, List.filter_nil, Nat.reduceBEq, Bool.not_true, Bool.not_false, Bool.and_true, Bool.and_false, Bool.false_and, Bool.true_and, if_true, if_false, Bool.false_eq_true, reduceIte, xc_i, xc_j, xc_r, xc_n, List.nil_append, List.cons_append, Option.toList_some, Option.toList_none, nI_ltJ, nI_leJ, nI_eqJ, nI_ltz, nI_gez, nI_gtz, nI_lez, nI_eqz, m1_ltz, m1_gez, true_imp_iff, false_imp_iff, true_and, and_true, ne_eq, not_false_eq_true, not_true_eq_false, Nat.reduceEqDiff, Nat.reduceLT, Nat.reduceLeDiff, h0]
    with_reducible refine xm_go_blk b_X2_readWords_54 k_X2_readWords_54 ?_
    refine by_iload_n rfl ?_
    refine by_iconst ci_2 ?_
    refine by_ic_ne 68 rfl ?_
    simp (disch := first | exact Nat.ne_of_beq_eq_false rfl | exact rfl | omega) only [nI_add, xa_sub, xa_mul, pk_div, nm_mod, xa_shr, xa_and7, xa_and1, xa_and255, xa_by_and, nI_m1, Nat.add_sub_cancel, Nat.reducePow, Nat.zero_add, Nat.add_zero, Nat.reduceAdd, Nat.reduceMul, Nat.reduceSub, xf_same, xq_ff, xq_fo, xf_1, xf_2, xs_1, xs_2, xs_same, xq_so, xj_1, xj_2, xj_same, xq_jo, xq_sa1, xq_same, xq_other, upd_s, oI_n, oI_s, xv_0, xv_1, xv_2, xv_3, xm_p1, xm_p2, xq_fp, xq_fn, List.filter_nil, Nat.reduceBEq, Bool.not_true, Bool.not_false, Bool.and_true, Bool.and_false, Bool.false_and, Bool.true_and, if_true, if_false, Bool.false_eq_true, reduceIte, xc_i, xc_j, xc_r, xc_n, List.nil_append, List.cons_append, Option.toList_some, Option.toList_none, nI_ltJ, nI_leJ, nI_eqJ, nI_ltz, nI_gez, nI_gtz, nI_lez, nI_eqz, m1_ltz, m1_gez, true_imp_iff, false_imp_iff, true_and, and_true, ne_eq, not_false_eq_true, not_true_eq_false, Nat.reduceEqDiff, Nat.reduceLT, Nat.reduceLeDiff, h0]
    with_reducible refine xm_go_blk b_X2_readWords_59 k_X2_readWords_59 ?_
    refine by_aload_n rfl ?_
    refine by_getf cn_64 fl_2_7 (by first | exact rfl | assumption) (by decide) ?_
    refine by_iconst ci_2 ?_
    simp (disch := first | exact Nat.ne_of_beq_eq_false rfl | exact rfl | omega) only [nI_add, xa_sub, xa_mul, pk_div, nm_mod, xa_shr, xa_and7, xa_and1, xa_and255, xa_by_and, nI_m1, Nat.add_sub_cancel, Nat.reducePow, Nat.zero_add, Nat.add_zero, Nat.reduceAdd, Nat.reduceMul, Nat.reduceSub, xf_same, xq_ff, xq_fo, xf_1, xf_2, xs_1, xs_2, xs_same, xq_so, xj_1, xj_2, xj_same, xq_jo, xq_sa1, xq_same, xq_other, upd_s, oI_n, oI_s, h0]
    refine by_idiv (by first | decide | assumption) ?_
    refine by_goto 72 rfl ?_
    try simp (disch := first | exact Nat.ne_of_beq_eq_false rfl | exact rfl | omega) only [nI_add, xa_sub, xa_mul, pk_div, nm_mod, xa_shr, xa_and7, xa_and1, xa_and255, xa_by_and, nI_m1, Nat.add_sub_cancel, Nat.reducePow, Nat.zero_add, Nat.add_zero, Nat.reduceAdd, Nat.reduceMul, Nat.reduceSub, xf_same, xq_ff, xq_fo, xf_1, xf_2, xs_1, xs_2, xs_same, xq_so, xj_1, xj_2, xj_same, xq_jo, xq_sa1, xq_same, xq_other, upd_s, oI_n, oI_s, xv_0, xv_1, xv_2, xv_3, xm_p1, xm_p2, xq_fp, xq_fn, List.filter_nil, Nat.reduceBEq, Bool.not_true, Bool.not_false, Bool.and_true, Bool.and_false, Bool.false_and, Bool.true_and, if_true, if_false, Bool.false_eq_true, reduceIte, xc_i, xc_j, xc_r, xc_n, List.nil_append, List.cons_append, Option.toList_some, Option.toList_none, h0]
    with_reducible refine xm_go_blk b_X2_readWords_72 k_X2_readWords_72 ?_
    refine by_istore (by rw [ml_64]; decide) ?_
    refine by_aload_n rfl ?_
    refine by_iload_n rfl ?_
    refine by_if_ne 83 rfl ?_
    simp (disch := first | exact Nat.ne_of_beq_eq_false rfl | exact rfl | omega) only [nI_add, xa_sub, xa_mul, pk_div, nm_mod, xa_shr, xa_and7, xa_and1, xa_and255, xa_by_and, nI_m1, Nat.add_sub_cancel, Nat.reducePow, Nat.zero_add, Nat.add_zero, Nat.reduceAdd, Nat.reduceMul, Nat.reduceSub, xf_same, xq_ff, xq_fo, xf_1, xf_2, xs_1, xs_2, xs_same, xq_so, xj_1, xj_2, xj_same, xq_jo, xq_sa1, xq_same, xq_other, upd_s, oI_n, oI_s, xv_0, xv_1, xv_2, xv_3, xm_p1, xm_p2, xq_fp, xq_fn, List.filter_nil, Nat.reduceBEq, Bool.not_true, Bool.not_false, Bool.and_true, Bool.and_false, Bool.false_and, Bool.true_and, if_true, if_false, Bool.false_eq_true, reduceIte, xc_i, xc_j, xc_r, xc_n, List.nil_append, List.cons_append, Option.toList_some, Option.toList_none, nI_ltJ, nI_leJ, nI_eqJ, nI_ltz, nI_gez, nI_gtz, nI_lez, nI_eqz, m1_ltz, m1_gez, true_imp_iff, false_imp_iff, true_and, and_true, ne_eq, not_false_eq_true, not_true_eq_false, Nat.reduceEqDiff, Nat.reduceLT, Nat.reduceLeDiff, h0]
    with_reducible refine xm_go_blk b_X2_readWords_83 k_X2_readWords_83 ?_
    refine by_aload_n rfl ?_
    refine by_iload rfl ?_
    refine by_iload rfl ?_
    refine by_inv2 cn_64 lk_2_67 (by rw [xe_cnt]; decide) is_83 np_83 cn_83 (by first | exact rfl | assumption) (Nat.le_of_ble_eq_true rfl) ?_
    refine sp_get F1 (by omega) (by omega) (hWB.2.2.2.2.1 rfl) ?_
    exact xm_go_wk (by simp [Value.category]) (tail f _ _ rfl (by rw [m1]; show _ = mc_n (mc_sh (mB h) f) 0 (w / 2); rw [mc_n_sh]; rfl) f1 (e02 (by decide) (by decide)))
  · with_reducible refine xm_go_blk b_X2_readWords_0 k_X2_readWords_0 ?_
    refine by_iload_n rfl ?_
    refine by_istore (by rw [ml_64]; decide) ?_
    refine by_aload_n rfl ?_
    refine by_iconst ci_0 ?_
    refine by_putf cn_64 fl_2_64 (by first | exact rfl | assumption) (by decide) nf_2_2 ft_2_2 (by first | rfl | assumption) (by first | rfl | assumption) ?_
    refine by_iload_n rfl ?_
    refine by_bipush cb_8 ?_
    refine by_ic_ne 32 rfl ?_
    simp (disch := first | exact Nat.ne_of_beq_eq_false rfl | exact rfl | omega) only [nI_add, xa_sub, xa_mul, pk_div, nm_mod, xa_shr, xa_and7, xa_and1, xa_and255, xa_by_and, nI_m1, Nat.add_sub_cancel, Nat.reducePow, Nat.zero_add, Nat.add_zero, Nat.reduceAdd, Nat.reduceMul, Nat.reduceSub, xf_same, xq_ff, xq_fo, xf_1, xf_2, xs_1, xs_2, xs_same, xq_so, xj_1, xj_2, xj_same, xq_jo, xq_sa1, xq_same, xq_other, upd_s, oI_n, oI_s, xv_0, xv_1, xv_2, xv_3, xm_p1, xm_p2, xq_fp, xq_fn, List.filter_nil, Nat.reduceBEq, Bool.not_true, Bool.not_false, Bool.and_true, Bool.and_false, Bool.false_and, Bool.true_and, if_true, if_false, Bool.false_eq_true, reduceIte, xc_i, xc_j, xc_r, xc_n, List.nil_append, List.cons_append, Option.toList_some, Option.toList_none, nI_ltJ, nI_leJ, nI_eqJ, nI_ltz, nI_gez, nI_gtz, nI_lez, nI_eqz, m1_ltz, m1_gez, true_imp_iff, false_imp_iff, true_and, and_true, ne_eq, not_false_eq_true, not_true_eq_false, Nat.reduceEqDiff, Nat.reduceLT, Nat.reduceLeDiff]
    with_reducible refine xm_go_blk b_X2_readWords_32 k_X2_readWords_32 ?_
    refine by_iload_n rfl ?_
    refine by_bipush cb_10 ?_
    refine by_ic_ne 54 rfl ?_
    simp (disch := first | exact Nat.ne_of_beq_eq_false rfl | exact rfl | omega) only [nI_add, xa_sub, xa_mul, pk_div, nm_mod, xa_shr, xa_and7, xa_and1, xa_and255, xa_by_and, nI_m1, Nat.add_sub_cancel, Nat.reducePow, Nat.zero_add, Nat.add_zero, Nat.reduceAdd, Nat.reduceMul, Nat.reduceSub, xf_same, xq_ff, xq_fo, xf_1, xf_2, xs_1, xs_2, xs_same, xq_so, xj_1, xj_2, xj_same, xq_jo, xq_sa1, xq_same, xq_other, upd_s, oI_n, oI_s, xv_0, xv_1, xv_2, xv_3, xm_p1, xm_p2, xq_fp, xq_fn, List.filter_nil, Nat.reduceBEq, Bool.not_true, Bool.not_false, Bool.and_true, Bool.and_false, Bool.false_and, Bool.true_and, if_true, if_false, Bool.false_eq_true, reduceIte, xc_i, xc_j, xc_r, xc_n, List.nil_append, List.cons_append, Option.toList_some, Option.toList_none, nI_ltJ, nI_leJ, nI_eqJ, nI_ltz, nI_gez, nI_gtz, nI_lez, nI_eqz, m1_ltz, m1_gez, true_imp_iff, false_imp_iff, true_and, and_true, ne_eq, not_false_eq_true, not_true_eq_false, Nat.reduceEqDiff, Nat.reduceLT, Nat.reduceLeDiff]
    exact xm_go_wk (by simp [Value.category]) (xw f _ rfl (by decide) (by decide) F1 f1 (e02 (by decide) (by decide)))
  · with_reducible refine xm_go_blk b_X2_readWords_0 k_X2_readWords_0 ?_
    refine by_iload_n rfl ?_
    refine by_istore (by rw [ml_64]; decide) ?_
    refine by_aload_n rfl ?_
    refine by_iconst ci_0 ?_
    refine by_putf cn_64 fl_2_64 (by first | exact rfl | assumption) (by decide) nf_2_2 ft_2_2 (by first | rfl | assumption) (by first | rfl | assumption) ?_
    refine by_iload_n rfl ?_
    refine by_bipush cb_8 ?_
    refine by_ic_ne 32 rfl ?_
    simp (disch := first | exact Nat.ne_of_beq_eq_false rfl | exact rfl | omega) only [nI_add, xa_sub, xa_mul, pk_div, nm_mod, xa_shr, xa_and7, xa_and1, xa_and255, xa_by_and, nI_m1, Nat.add_sub_cancel, Nat.reducePow, Nat.zero_add, Nat.add_zero, Nat.reduceAdd, Nat.reduceMul, Nat.reduceSub, xf_same, xq_ff, xq_fo, xf_1, xf_2, xs_1, xs_2, xs_same, xq_so, xj_1, xj_2, xj_same, xq_jo, xq_sa1, xq_same, xq_other, upd_s, oI_n, oI_s, xv_0, xv_1, xv_2, xv_3, xm_p1, xm_p2, xq_fp, xq_fn, List.filter_nil, Nat.reduceBEq, Bool.not_true, Bool.not_false, Bool.and_true, Bool.and_false, Bool.false_and, Bool.true_and, if_true, if_false, Bool.false_eq_true, reduceIte, xc_i, xc_j, xc_r, xc_n, List.nil_append, List.cons_append, Option.toList_some, Option.toList_none, nI_ltJ, nI_leJ, nI_eqJ, nI_ltz, nI_gez, nI_gtz, nI_lez, nI_eqz, m1_ltz, m1_gez, true_imp_iff, false_imp_iff, true_and, and_true, ne_eq, not_false_eq_true, not_true_eq_false, Nat.reduceEqDiff, Nat.reduceLT, Nat.reduceLeDiff]
    with_reducible refine xm_go_blk b_X2_readWords_32 k_X2_readWords_32 ?_
    refine by_iload_n rfl ?_
    refine by_bipush cb_10 ?_
    refine by_ic_ne 54 rfl ?_
    simp (disch := first | exact Nat.ne_of_beq_eq_false rfl | exact rfl | omega) only [nI_add, xa_sub, xa_mul, pk_div, nm_mod, xa_shr, xa_and7, xa_and1, xa_and255, xa_by_and, nI_m1, Nat.add_sub_cancel, Nat.reducePow, Nat.zero_add, Nat.add_zero, Nat.reduceAdd, Nat.reduceMul, Nat.reduceSub, xf_same, xq_ff, xq_fo, xf_1, xf_2, xs_1, xs_2, xs_same, xq_so, xj_1, xj_2, xj_same, xq_jo, xq_sa1, xq_same, xq_other, upd_s, oI_n, oI_s, xv_0, xv_1, xv_2, xv_3, xm_p1, xm_p2, xq_fp, xq_fn, List.filter_nil, Nat.reduceBEq, Bool.not_true, Bool.not_false, Bool.and_true, Bool.and_false, Bool.false_and, Bool.true_and, if_true, if_false, Bool.false_eq_true, reduceIte, xc_i, xc_j, xc_r, xc_n, List.nil_append, List.cons_append, Option.toList_some, Option.toList_none, nI_ltJ, nI_leJ, nI_eqJ, nI_ltz, nI_gez, nI_gtz, nI_lez, nI_eqz, m1_ltz, m1_gez, true_imp_iff, false_imp_iff, true_and, and_true, ne_eq, not_false_eq_true, not_true_eq_false, Nat.reduceEqDiff, Nat.reduceLT, Nat.reduceLeDiff]
    exact xm_go_wk (by simp [Value.category]) (xw f _ rfl (by decide) (by decide) F1 f1 (e02 (by decide) (by decide)))
  · with_reducible refine xm_go_blk b_X2_readWords_0 k_X2_readWords_0 ?_
    refine by_iload_n rfl ?_
    refine by_istore (by rw [ml_64]; decide) ?_
    refine by_aload_n rfl ?_
    refine by_iconst ci_0 ?_
    refine by_putf cn_64 fl_2_64 (by first | exact rfl | assumption) (by decide) nf_2_2 ft_2_2 (by first | rfl | assumption) (by first | rfl | assumption) ?_
    refine by_iload_n rfl ?_
    refine by_bipush cb_8 ?_
    refine by_ic_ne 32 rfl ?_
    simp (disch := first | exact Nat.ne_of_beq_eq_false rfl | exact rfl | omega) only [nI_add, xa_sub, xa_mul, pk_div, nm_mod, xa_shr, xa_and7, xa_and1, xa_and255, xa_by_and, nI_m1, Nat.add_sub_cancel, Nat.reducePow, Nat.zero_add, Nat.add_zero, Nat.reduceAdd, Nat.reduceMul, Nat.reduceSub, xf_same, xq_ff, xq_fo, xf_1, xf_2, xs_1, xs_2, xs_same, xq_so, xj_1, xj_2, xj_same, xq_jo, xq_sa1, xq_same, xq_other, upd_s, oI_n, oI_s, xv_0, xv_1, xv_2, xv_3, xm_p1, xm_p2, xq_fp, xq_fn, List.filter_nil, Nat.reduceBEq, Bool.not_true, Bool.not_false, Bool.and_true, Bool.and_false, Bool.false_and, Bool.true_and, if_true, if_false, Bool.false_eq_true, reduceIte, xc_i, xc_j, xc_r, xc_n, List.nil_append, List.cons_append, Option.toList_some, Option.toList_none, nI_ltJ, nI_leJ, nI_eqJ, nI_ltz, nI_gez, nI_gtz, nI_lez, nI_eqz, m1_ltz, m1_gez, true_imp_iff, false_imp_iff, true_and, and_true, ne_eq, not_false_eq_true, not_true_eq_false, Nat.reduceEqDiff, Nat.reduceLT, Nat.reduceLeDiff]
    with_reducible refine xm_go_blk b_X2_readWords_32 k_X2_readWords_32 ?_
    refine by_iload_n rfl ?_
    refine by_bipush cb_10 ?_
    refine by_ic_ne 54 rfl ?_
    simp (disch := first | exact Nat.ne_of_beq_eq_false rfl | exact rfl | omega) only [nI_add, xa_sub, xa_mul, pk_div, nm_mod, xa_shr, xa_and7, xa_and1, xa_and255, xa_by_and, nI_m1, Nat.add_sub_cancel, Nat.reducePow, Nat.zero_add, Nat.add_zero, Nat.reduceAdd, Nat.reduceMul, Nat.reduceSub, xf_same, xq_ff, xq_fo, xf_1, xf_2, xs_1, xs_2, xs_same, xq_so, xj_1, xj_2, xj_same, xq_jo, xq_sa1, xq_same, xq_other, upd_s, oI_n, oI_s, xv_0, xv_1, xv_2, xv_3, xm_p1, xm_p2, xq_fp, xq_fn, List.filter_nil, Nat.reduceBEq, Bool.not_true, Bool.not_false, Bool.and_true, Bool.and_false, Bool.false_and, Bool.true_and, if_true, if_false, Bool.false_eq_true, reduceIte, xc_i, xc_j, xc_r, xc_n, List.nil_append, List.cons_append, Option.toList_some, Option.toList_none, nI_ltJ, nI_leJ, nI_eqJ, nI_ltz, nI_gez, nI_gtz, nI_lez, nI_eqz, m1_ltz, m1_gez, true_imp_iff, false_imp_iff, true_and, and_true, ne_eq, not_false_eq_true, not_true_eq_false, Nat.reduceEqDiff, Nat.reduceLT, Nat.reduceLeDiff]
    exact xm_go_wk (by simp [Value.category]) (xw f _ rfl (by decide) (by decide) F1 f1 (e02 (by decide) (by decide)))
  · have hb : mc_n (mB h) f 1 < 2 := mc_n_lt _ _ 1
    with_reducible refine xm_go_blk b_X2_readWords_0 k_X2_readWords_0 ?_
    refine by_iload_n rfl ?_
    refine by_istore (by rw [ml_64]; decide) ?_
    refine by_aload_n rfl ?_
    refine by_iconst ci_0 ?_
    refine by_putf cn_64 fl_2_64 (by first | exact rfl | assumption) (by decide) nf_2_2 ft_2_2 (by first | rfl | assumption) (by first | rfl | assumption) ?_
    refine by_iload_n rfl ?_
    refine by_bipush cb_8 ?_
    refine by_ic_ne 32 rfl ?_
    simp (disch := first | exact Nat.ne_of_beq_eq_false rfl | exact rfl | omega) only [nI_add, xa_sub, xa_mul, pk_div, nm_mod, xa_shr, xa_and7, xa_and1, xa_and255, xa_by_and, nI_m1, Nat.add_sub_cancel, Nat.reducePow, Nat.zero_add, Nat.add_zero, Nat.reduceAdd, Nat.reduceMul, Nat.reduceSub, xf_same, xq_ff, xq_fo, xf_1, xf_2, xs_1, xs_2, xs_same, xq_so, xj_1, xj_2, xj_same, xq_jo, xq_sa1, xq_same, xq_other, upd_s, oI_n, oI_s, xv_0, xv_1, xv_2, xv_3, xm_p1, xm_p2, xq_fp, xq_fn, List.filter_nil, Nat.reduceBEq, Bool.not_true, Bool.not_false, Bool.and_true, Bool.and_false, Bool.false_and, Bool.true_and, if_true, if_false, Bool.false_eq_true, reduceIte, xc_i, xc_j, xc_r, xc_n, List.nil_append, List.cons_append, Option.toList_some, Option.toList_none, nI_ltJ, nI_leJ, nI_eqJ, nI_ltz, nI_gez, nI_gtz, nI_lez, nI_eqz, m1_ltz, m1_gez, true_imp_iff, false_imp_iff, true_and, and_true, ne_eq, not_false_eq_true, not_true_eq_false, Nat.reduceEqDiff, Nat.reduceLT, Nat.reduceLeDiff]
    with_reducible refine xm_go_blk b_X2_readWords_14 k_X2_readWords_14 ?_
    refine by_aload_n rfl ?_
    refine by_aload_n rfl ?_
    refine by_iload rfl ?_
    refine by_iconst ci_1 ?_
    refine by_inv2 cn_64 lk_2_67 (by rw [xe_cnt]; decide) is_83 np_83 cn_83 (by first | exact rfl | assumption) (Nat.le_of_ble_eq_true rfl) ?_
    refine sp_get F1 (by decide) (by decide) (hWB.2.2.2.2.2.1 rfl) ?_
    rw [m1]
    with_reducible refine xm_go_blk b_X2_readWords_22 k_X2_readWords_22 ?_
    refine by_l2i ?_
    refine by_putf cn_64 fl_2_64 (by first | exact rfl | assumption) (by decide) nf_2_2 ft_2_2 (by first | rfl | assumption) (by first | rfl | assumption) ?_
    refine by_iinc (by rw [ml_64]; decide) rfl ci_1 ?_
    refine by_goto 54 rfl ?_
    try simp (disch := first | exact Nat.ne_of_beq_eq_false rfl | exact rfl | omega) only [nI_add, xa_sub, xa_mul, pk_div, nm_mod, xa_shr, xa_and7, xa_and1, xa_and255, xa_by_and, nI_m1, Nat.add_sub_cancel, Nat.reducePow, Nat.zero_add, Nat.add_zero, Nat.reduceAdd, Nat.reduceMul, Nat.reduceSub, xf_same, xq_ff, xq_fo, xf_1, xf_2, xs_1, xs_2, xs_same, xq_so, xj_1, xj_2, xj_same, xq_jo, xq_sa1, xq_same, xq_other, upd_s, oI_n, oI_s, xv_0, xv_1, xv_2, xv_3, xm_p1, xm_p2, xq_fp, xq_fn, List.filter_nil, Nat.reduceBEq, Bool.not_true, Bool.not_false, Bool.and_true, Bool.and_false, Bool.false_and, Bool.true_and, if_true, if_false, Bool.false_eq_true, reduceIte, xc_i, xc_j, xc_r, xc_n, List.nil_append, List.cons_append, Option.toList_some, Option.toList_none, l2i_n]
    refine xm_go_wk (by simp [Value.category]) (xw (f + 1) _ rfl (by decide) (by decide) (Fr_XF hF (Fr_sf f1 (by simp [jrT])) (by decide +kernel)) (Fr_sf f1 (by simp [jrT])) ?_)
    have e : jc (mc_sh (mB h) f) 8 = mc_n (mB h) f 1 := by show mc_n (mc_sh (mB h) f) 0 1 = _; rw [mc_n_sh]; rfl
    rw [e]; simp [xm_sf, updV]
  · with_reducible refine xm_go_blk b_X2_readWords_0 k_X2_readWords_0 ?_
    refine by_iload_n rfl ?_
    refine by_istore (by rw [ml_64]; decide) ?_
    refine by_aload_n rfl ?_
    refine by_iconst ci_0 ?_
    refine by_putf cn_64 fl_2_64 (by first | exact rfl | assumption) (by decide) nf_2_2 ft_2_2 (by first | rfl | assumption) (by first | rfl | assumption) ?_
    refine by_iload_n rfl ?_
    refine by_bipush cb_8 ?_
    refine by_ic_ne 32 rfl ?_
    simp (disch := first | exact Nat.ne_of_beq_eq_false rfl | exact rfl | omega) only [nI_add, xa_sub, xa_mul, pk_div, nm_mod, xa_shr, xa_and7, xa_and1, xa_and255, xa_by_and, nI_m1, Nat.add_sub_cancel, Nat.reducePow, Nat.zero_add, Nat.add_zero, Nat.reduceAdd, Nat.reduceMul, Nat.reduceSub, xf_same, xq_ff, xq_fo, xf_1, xf_2, xs_1, xs_2, xs_same, xq_so, xj_1, xj_2, xj_same, xq_jo, xq_sa1, xq_same, xq_other, upd_s, oI_n, oI_s, xv_0, xv_1, xv_2, xv_3, xm_p1, xm_p2, xq_fp, xq_fn, List.filter_nil, Nat.reduceBEq, Bool.not_true, Bool.not_false, Bool.and_true, Bool.and_false, Bool.false_and, Bool.true_and, if_true, if_false, Bool.false_eq_true, reduceIte, xc_i, xc_j, xc_r, xc_n, List.nil_append, List.cons_append, Option.toList_some, Option.toList_none, nI_ltJ, nI_leJ, nI_eqJ, nI_ltz, nI_gez, nI_gtz, nI_lez, nI_eqz, m1_ltz, m1_gez, true_imp_iff, false_imp_iff, true_and, and_true, ne_eq, not_false_eq_true, not_true_eq_false, Nat.reduceEqDiff, Nat.reduceLT, Nat.reduceLeDiff]
    with_reducible refine xm_go_blk b_X2_readWords_32 k_X2_readWords_32 ?_
    refine by_iload_n rfl ?_
    refine by_bipush cb_10 ?_
    refine by_ic_ne 54 rfl ?_
    simp (disch := first | exact Nat.ne_of_beq_eq_false rfl | exact rfl | omega) only [nI_add, xa_sub, xa_mul, pk_div, nm_mod, xa_shr, xa_and7, xa_and1, xa_and255, xa_by_and, nI_m1, Nat.add_sub_cancel, Nat.reducePow, Nat.zero_add, Nat.add_zero, Nat.reduceAdd, Nat.reduceMul, Nat.reduceSub, xf_same, xq_ff, xq_fo, xf_1, xf_2, xs_1, xs_2, xs_same, xq_so, xj_1, xj_2, xj_same, xq_jo, xq_sa1, xq_same, xq_other, upd_s, oI_n, oI_s, xv_0, xv_1, xv_2, xv_3, xm_p1, xm_p2, xq_fp, xq_fn, List.filter_nil, Nat.reduceBEq, Bool.not_true, Bool.not_false, Bool.and_true, Bool.and_false, Bool.false_and, Bool.true_and, if_true, if_false, Bool.false_eq_true, reduceIte, xc_i, xc_j, xc_r, xc_n, List.nil_append, List.cons_append, Option.toList_some, Option.toList_none, nI_ltJ, nI_leJ, nI_eqJ, nI_ltz, nI_gez, nI_gtz, nI_lez, nI_eqz, m1_ltz, m1_gez, true_imp_iff, false_imp_iff, true_and, and_true, ne_eq, not_false_eq_true, not_true_eq_false, Nat.reduceEqDiff, Nat.reduceLT, Nat.reduceLeDiff]
    exact xm_go_wk (by simp [Value.category]) (xw f _ rfl (by decide) (by decide) F1 f1 (e02 (by decide) (by decide)))
  · have hb : mc_n (mB h) f 8 < 256 := mc_n_lt _ _ 8
    with_reducible refine xm_go_blk b_X2_readWords_0 k_X2_readWords_0 ?_
    refine by_iload_n rfl ?_
    refine by_istore (by rw [ml_64]; decide) ?_
    refine by_aload_n rfl ?_
    refine by_iconst ci_0 ?_
    refine by_putf cn_64 fl_2_64 (by first | exact rfl | assumption) (by decide) nf_2_2 ft_2_2 (by first | rfl | assumption) (by first | rfl | assumption) ?_
    refine by_iload_n rfl ?_
    refine by_bipush cb_8 ?_
    refine by_ic_ne 32 rfl ?_
    simp (disch := first | exact Nat.ne_of_beq_eq_false rfl | exact rfl | omega) only [nI_add, xa_sub, xa_mul, pk_div, nm_mod, xa_shr, xa_and7, xa_and1, xa_and255, xa_by_and, nI_m1, Nat.add_sub_cancel, Nat.reducePow, Nat.zero_add, Nat.add_zero, Nat.reduceAdd, Nat.reduceMul, Nat.reduceSub, xf_same, xq_ff, xq_fo, xf_1, xf_2, xs_1, xs_2, xs_same, xq_so, xj_1, xj_2, xj_same, xq_jo, xq_sa1, xq_same, xq_other, upd_s, oI_n, oI_s, xv_0, xv_1, xv_2, xv_3, xm_p1, xm_p2, xq_fp, xq_fn, List.filter_nil, Nat.reduceBEq, Bool.not_true, Bool.not_false, Bool.and_true, Bool.and_false, Bool.false_and, Bool.true_and, if_true, if_false, Bool.false_eq_true, reduceIte, xc_i, xc_j, xc_r, xc_n, List.nil_append, List.cons_append, Option.toList_some, Option.toList_none, nI_ltJ, nI_leJ, nI_eqJ, nI_ltz, nI_gez, nI_gtz, nI_lez, nI_eqz, m1_ltz, m1_gez, true_imp_iff, false_imp_iff, true_and, and_true, ne_eq, not_false_eq_true, not_true_eq_false, Nat.reduceEqDiff, Nat.reduceLT, Nat.reduceLeDiff]
    with_reducible refine xm_go_blk b_X2_readWords_32 k_X2_readWords_32 ?_
    refine by_iload_n rfl ?_
    refine by_bipush cb_10 ?_
    refine by_ic_ne 54 rfl ?_
    simp (disch := first | exact Nat.ne_of_beq_eq_false rfl | exact rfl | omega) only [nI_add, xa_sub, xa_mul, pk_div, nm_mod, xa_shr, xa_and7, xa_and1, xa_and255, xa_by_and, nI_m1, Nat.add_sub_cancel, Nat.reducePow, Nat.zero_add, Nat.add_zero, Nat.reduceAdd, Nat.reduceMul, Nat.reduceSub, xf_same, xq_ff, xq_fo, xf_1, xf_2, xs_1, xs_2, xs_same, xq_so, xj_1, xj_2, xj_same, xq_jo, xq_sa1, xq_same, xq_other, upd_s, oI_n, oI_s, xv_0, xv_1, xv_2, xv_3, xm_p1, xm_p2, xq_fp, xq_fn, List.filter_nil, Nat.reduceBEq, Bool.not_true, Bool.not_false, Bool.and_true, Bool.and_false, Bool.false_and, Bool.true_and, if_true, if_false, Bool.false_eq_true, reduceIte, xc_i, xc_j, xc_r, xc_n, List.nil_append, List.cons_append, Option.toList_some, Option.toList_none, nI_ltJ, nI_leJ, nI_eqJ, nI_ltz, nI_gez, nI_gtz, nI_lez, nI_eqz, m1_ltz, m1_gez, true_imp_iff, false_imp_iff, true_and, and_true, ne_eq, not_false_eq_true, not_true_eq_false, Nat.reduceEqDiff, Nat.reduceLT, Nat.reduceLeDiff]
    with_reducible refine xm_go_blk b_X2_readWords_38 k_X2_readWords_38 ?_
    refine by_aload_n rfl ?_
    refine by_aload_n rfl ?_
    refine by_iload rfl ?_
    refine by_bipush cb_8 ?_
    refine by_inv2 cn_64 lk_2_67 (by rw [xe_cnt]; decide) is_83 np_83 cn_83 (by first | exact rfl | assumption) (Nat.le_of_ble_eq_true rfl) ?_
    refine sp_get F1 (by decide) (by decide) (hWB.2.2.2.2.2.2.1 rfl) ?_
    rw [m1]
    with_reducible refine xm_go_blk b_X2_readWords_47 k_X2_readWords_47 ?_
    refine by_l2i ?_
    refine by_putf cn_64 fl_2_64 (by first | exact rfl | assumption) (by decide) nf_2_2 ft_2_2 (by first | rfl | assumption) (by first | rfl | assumption) ?_
    refine by_iinc (by rw [ml_64]; decide) rfl (by decide : Int32.ofInt (8) = nI 8) ?_
    refine by_nil ?_
    try simp (disch := first | exact Nat.ne_of_beq_eq_false rfl | exact rfl | omega) only [nI_add, xa_sub, xa_mul, pk_div, nm_mod, xa_shr, xa_and7, xa_and1, xa_and255, xa_by_and, nI_m1, Nat.add_sub_cancel, Nat.reducePow, Nat.zero_add, Nat.add_zero, Nat.reduceAdd, Nat.reduceMul, Nat.reduceSub, xf_same, xq_ff, xq_fo, xf_1, xf_2, xs_1, xs_2, xs_same, xq_so, xj_1, xj_2, xj_same, xq_jo, xq_sa1, xq_same, xq_other, upd_s, oI_n, oI_s, xv_0, xv_1, xv_2, xv_3, xm_p1, xm_p2, xq_fp, xq_fn, List.filter_nil, Nat.reduceBEq, Bool.not_true, Bool.not_false, Bool.and_true, Bool.and_false, Bool.false_and, Bool.true_and, if_true, if_false, Bool.false_eq_true, reduceIte, xc_i, xc_j, xc_r, xc_n, List.nil_append, List.cons_append, Option.toList_some, Option.toList_none, l2i_n]
    refine xm_go_wk (by simp [Value.category]) (xw (f + 8) _ rfl (by decide) (by decide) (Fr_XF hF (Fr_sf f1 (by simp [jrT])) (by decide +kernel)) (Fr_sf f1 (by simp [jrT])) ?_)
    have e : jc (mc_sh (mB h) f) 10 = mc_n (mB h) f 8 := by show mc_n (mc_sh (mB h) f) 0 8 = _; rw [mc_n_sh]; rfl
    rw [e]; simp [xm_sf, updV]
end JA
