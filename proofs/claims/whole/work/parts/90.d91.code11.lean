/-! ===== definitions of jets: pieces of one bit ===== -/
theorem li_1 {x : List Bool} (h : x.length = 1) : ∃ a, x = [a] := by
  match x, h with
  | [a], _ => exact ⟨a, rfl⟩
theorem li_2 {x : List Bool} (h : x.length = 2) : ∃ a b, x = [a, b] := by
  match x, h with
  | [a, b], _ => exact ⟨a, b, rfl⟩
theorem li_f2 {w : Nat} {f : gFn} {g : List Bool → List Bool → List Bool} (hs : ∀ x y, x.length = w → y.length = w → f (x ++ y) = g x y) : ∀ z : List Bool, z.length = w + w → f z = g (z.take w) (z.drop w) := fun z hz => by
  have := hs (z.take w) (z.drop w) (by simp; omega) (by simp; omega)
  rw [List.take_append_drop] at this
  exact this
theorem li_f3 {a w : Nat} {f : gFn} {g : List Bool → List Bool → List Bool → List Bool} (hs : ∀ c x y, c.length = a → x.length = w → y.length = w → f (c ++ (x ++ y)) = g c x y) : ∀ z : List Bool, z.length = a + (w + w) → f z = g (z.take a) ((z.drop a).take w) ((z.drop a).drop w) := fun z hz => by
  have := hs (z.take a) ((z.drop a).take w) ((z.drop a).drop w) (by simp; omega) (by simp; omega) (by simp; omega)
  rw [List.take_append_drop, List.take_append_drop] at this
  exact this
section CD
variable {sc : xm_Sc}
theorem bl_0 : BdOK sc 0 0 := by
  intro r d c m h G J post hP hr hd hF hI hJ hm hp
  have hr' : r = 1 := by rw [hr]; decide
  have ho : oc 0 0 = 15 := by decide
  rw [ho] at hm hp
  rw [if_neg (by decide), if_pos rfl]
  refine xq_in rfl ?_
  simp only [xq_a0, xq_aI, xq_aJ, xq_aR, Nat.reduceAdd]
  have E : cE h G c h G c := cE_rf
  with_reducible refine xm_go_blk b_X0_leafPiece_0 k_X0_leafPiece_0 ?_
  refine by_iload_n rfl ?_
  refine by_sw ?_
  refine xq_sw 96 (by decide) (by decide) ?_
  with_reducible refine xm_go_blk b_X0_leafPiece_96 k_X0_leafPiece_96 ?_
  refine by_aload_n rfl ?_
  refine by_aload_n rfl ?_
  refine by_aload_n rfl ?_
  refine by_aload_n rfl ?_
  refine by_iconst ci_0 ?_
  refine by_iconst ci_1 ?_
  refine by_inv2 cn_21 lk_0_73 (by rw [xe_cnt]; decide) is_3 np_3 cn_3 (by first | exact rfl | assumption) (Nat.le_of_ble_eq_true rfl) ?_
  refine sp_gbit (by omega) hF hI (by omega) (by omega) (fun h1 G1 c1 n1 F1 I1 e1 v1 => ?_)
  replace E := cE_tr E e1
  with_reducible refine xm_go_blk b_X0_leafPiece_105 k_X0_leafPiece_105 ?_
  refine by_aload_n rfl ?_
  refine by_iconst ci_1 ?_
  refine by_inv1 cn_21 lk_0_76 (by rw [xe_cnt]; decide) is_18 np_18 cn_18 (by first | exact rfl | assumption) (Nat.le_of_ble_eq_true rfl) ?_
  refine sp_iden F1 I1 (by omega) (by omega) (fun h2 G2 c2 n2 F2 I2 e2 v2 => ?_)
  replace v1 := nG_up v1 e2
  replace E := cE_tr E e2
  with_reducible refine xm_go_blk b_X0_leafPiece_110 k_X0_leafPiece_110 ?_
  refine by_inv2 cn_21 lk_0_80 (by rw [xe_cnt]; decide) is_25 np_25 cn_25 (by first | exact rfl | assumption) (Nat.le_of_ble_eq_true rfl) ?_
  refine sp_gpair F2 I2 (by omega) v1 v2 (by omega) (by omega) (fun h3 G3 c3 n3 F3 I3 e3 v3 => ?_)
  replace E := cE_tr E e3
  with_reducible refine xm_go_blk b_X0_leafPiece_113 k_X0_leafPiece_113 ?_
  refine by_aload_n rfl ?_
  refine by_aload_n rfl ?_
  refine by_iconst ci_1 ?_
  refine by_inv1 cn_21 lk_0_76 (by rw [xe_cnt]; decide) is_18 np_18 cn_18 (by first | exact rfl | assumption) (Nat.le_of_ble_eq_true rfl) ?_
  refine sp_iden F3 I3 (by omega) (by omega) (fun h4 G4 c4 n4 F4 I4 e4 v4 => ?_)
  replace v3 := nG_up v3 e4
  replace E := cE_tr E e4
  with_reducible refine xm_go_blk b_X0_leafPiece_119 k_X0_leafPiece_119 ?_
  refine by_aload_n rfl ?_
  refine by_bipush cb_6 ?_
  refine by_iconst ci_0 ?_
  refine by_inv2 cn_21 lk_0_83 (by rw [xe_cnt]; decide) is_26 np_26 cn_26 (by first | exact rfl | assumption) (Nat.le_of_ble_eq_true rfl) ?_
  refine sp_pc (a := 0) hP ⟨by omega, by omega, by omega⟩ rfl (by omega) hJ (by omega) F4 I4 (fun h5 G5 c5 n5 F5 I5 e5 p5 => ?_)
  obtain ⟨f5, v5, s5⟩ := p5
  simp only [pS, pT, pSp, Nat.reducePow] at v5 s5
  replace v5 := nG_cg v5 rfl rfl (fun x hx => s5 x hx) (qle_rf _)
  replace v3 := nG_up v3 e5
  replace v4 := nG_up v4 e5
  replace E := cE_tr E e5
  with_reducible refine xm_go_blk b_X0_leafPiece_126 k_X0_leafPiece_126 ?_
  refine by_inv2 cn_21 lk_0_80 (by rw [xe_cnt]; decide) is_25 np_25 cn_25 (by first | exact rfl | assumption) (Nat.le_of_ble_eq_true rfl) ?_
  refine sp_gpair F5 I5 (by omega) v4 v5 (by omega) (by omega) (fun h6 G6 c6 n6 F6 I6 e6 v6 => ?_)
  replace v3 := nG_up v3 e6
  replace E := cE_tr E e6
  with_reducible refine xm_go_blk b_X0_leafPiece_129 k_X0_leafPiece_129 ?_
  refine by_inv2 cn_21 lk_0_98 (by rw [xe_cnt]; decide) is_6 np_6 cn_6 (by first | exact rfl | assumption) (Nat.le_of_ble_eq_true rfl) ?_
  refine sp_choose F6 I6 (by omega) v3 v6 (by omega) (by omega) (by omega) (fun h7 G7 c7 n7 F7 I7 e7 v7 => ?_)
  replace E := cE_tr E e7
  with_reducible refine xm_go_blk b_X0_leafPiece_132 k_X0_leafPiece_132 ?_
  refine by_aload_n rfl ?_
  refine by_aload_n rfl ?_
  refine by_aload_n rfl ?_
  refine by_iconst ci_1 ?_
  refine by_inv1 cn_21 lk_0_76 (by rw [xe_cnt]; decide) is_18 np_18 cn_18 (by first | exact rfl | assumption) (Nat.le_of_ble_eq_true rfl) ?_
  refine sp_iden F7 I7 (by omega) (by omega) (fun h8 G8 c8 n8 F8 I8 e8 v8 => ?_)
  replace v7 := nG_up v7 e8
  replace E := cE_tr E e8
  with_reducible refine xm_go_blk b_X0_leafPiece_139 k_X0_leafPiece_139 ?_
  refine by_aload_n rfl ?_
  refine by_bipush cb_6 ?_
  refine by_iconst ci_0 ?_
  refine by_inv2 cn_21 lk_0_83 (by rw [xe_cnt]; decide) is_26 np_26 cn_26 (by first | exact rfl | assumption) (Nat.le_of_ble_eq_true rfl) ?_
  refine sp_pc (a := 0) hP ⟨by omega, by omega, by omega⟩ rfl (by omega) hJ (by omega) F8 I8 (fun h9 G9 c9 n9 F9 I9 e9 p9 => ?_)
  obtain ⟨f9, v9, s9⟩ := p9
  simp only [pS, pT, pSp, Nat.reducePow] at v9 s9
  replace v9 := nG_cg v9 rfl rfl (fun x hx => s9 x hx) (qle_rf _)
  replace v7 := nG_up v7 e9
  replace v8 := nG_up v8 e9
  replace E := cE_tr E e9
  with_reducible refine xm_go_blk b_X0_leafPiece_146 k_X0_leafPiece_146 ?_
  refine by_inv2 cn_21 lk_0_80 (by rw [xe_cnt]; decide) is_25 np_25 cn_25 (by first | exact rfl | assumption) (Nat.le_of_ble_eq_true rfl) ?_
  refine sp_gpair F9 I9 (by omega) v8 v9 (by omega) (by omega) (fun h10 G10 c10 n10 F10 I10 e10 v10 => ?_)
  replace v7 := nG_up v7 e10
  replace E := cE_tr E e10
  with_reducible refine xm_go_blk b_X0_leafPiece_149 k_X0_leafPiece_149 ?_
  refine by_aload_n rfl ?_
  refine by_aload_n rfl ?_
  refine by_iconst ci_1 ?_
  refine by_iconst ci_1 ?_
  refine by_inv2 cn_21 lk_0_73 (by rw [xe_cnt]; decide) is_3 np_3 cn_3 (by first | exact rfl | assumption) (Nat.le_of_ble_eq_true rfl) ?_
  refine sp_gbit (by omega) F10 I10 (by omega) (by omega) (fun h11 G11 c11 n11 F11 I11 e11 v11 => ?_)
  replace v10 := nG_up v10 e11
  replace v7 := nG_up v7 e11
  replace E := cE_tr E e11
  with_reducible refine xm_go_blk b_X0_leafPiece_156 k_X0_leafPiece_156 ?_
  refine by_aload_n rfl ?_
  refine by_iconst ci_1 ?_
  refine by_inv1 cn_21 lk_0_76 (by rw [xe_cnt]; decide) is_18 np_18 cn_18 (by first | exact rfl | assumption) (Nat.le_of_ble_eq_true rfl) ?_
  refine sp_iden F11 I11 (by omega) (by omega) (fun h12 G12 c12 n12 F12 I12 e12 v12 => ?_)
  replace v10 := nG_up v10 e12
  replace v11 := nG_up v11 e12
  replace v7 := nG_up v7 e12
  replace E := cE_tr E e12
  with_reducible refine xm_go_blk b_X0_leafPiece_161 k_X0_leafPiece_161 ?_
  refine by_inv2 cn_21 lk_0_80 (by rw [xe_cnt]; decide) is_25 np_25 cn_25 (by first | exact rfl | assumption) (Nat.le_of_ble_eq_true rfl) ?_
  refine sp_gpair F12 I12 (by omega) v11 v12 (by omega) (by omega) (fun h13 G13 c13 n13 F13 I13 e13 v13 => ?_)
  replace v10 := nG_up v10 e13
  replace v7 := nG_up v7 e13
  replace E := cE_tr E e13
  with_reducible refine xm_go_blk b_X0_leafPiece_164 k_X0_leafPiece_164 ?_
  refine by_inv2 cn_21 lk_0_98 (by rw [xe_cnt]; decide) is_6 np_6 cn_6 (by first | exact rfl | assumption) (Nat.le_of_ble_eq_true rfl) ?_
  refine sp_choose F13 I13 (by omega) v10 v13 (by omega) (by omega) (by omega) (fun h14 G14 c14 n14 F14 I14 e14 v14 => ?_)
  replace v7 := nG_up v7 e14
  replace E := cE_tr E e14
  with_reducible refine xm_go_blk b_X0_leafPiece_167 k_X0_leafPiece_167 ?_
  refine by_inv2 cn_21 lk_0_98 (by rw [xe_cnt]; decide) is_6 np_6 cn_6 (by first | exact rfl | assumption) (Nat.le_of_ble_eq_true rfl) ?_
  refine sp_choose F14 I14 (by omega) v7 v14 (by omega) (by omega) (by omega) (fun h15 G15 c15 n15 F15 I15 e15 v15 => ?_)
  replace E := cE_tr E e15
  with_reducible refine xm_go_blk b_X0_leafPiece_170 k_X0_leafPiece_170 ?_
  refine by_iret ry_21 (by first | rfl | assumption) ?_
  exact hp _ _ _ _ F15 (cI_mono I15 (by omega) hm) E ⟨_, nG_cg v15 rfl rfl (fun _ _ => rfl) (by decide), by intro c x y hc hx hy; obtain ⟨a, rfl⟩ := li_1 hc; obtain ⟨b, rfl⟩ := li_1 hx; obtain ⟨e, rfl⟩ := li_1 hy; cases a <;> cases b <;> cases e <;> rfl⟩
theorem bl_1 : BdOK sc 1 0 := by
  intro r d c m h G J post hP hr hd hF hI hJ hm hp
  have hr' : r = 1 := by rw [hr]; decide
  have ho : oc 1 0 = 15 := by decide
  rw [ho] at hm hp
  rw [if_neg (by decide), if_pos rfl]
  refine xq_in rfl ?_
  simp only [xq_a0, xq_aI, xq_aJ, xq_aR, Nat.reduceAdd]
  have E : cE h G c h G c := cE_rf
  with_reducible refine xm_go_blk b_X0_leafPiece_0 k_X0_leafPiece_0 ?_
  refine by_iload_n rfl ?_
  refine by_sw ?_
  refine xq_sw 171 (by decide) (by decide) ?_
  with_reducible refine xm_go_blk b_X0_leafPiece_171 k_X0_leafPiece_171 ?_
  refine by_aload_n rfl ?_
  refine by_aload_n rfl ?_
  refine by_aload_n rfl ?_
  refine by_aload_n rfl ?_
  refine by_iconst ci_1 ?_
  refine by_inv1 cn_21 lk_0_76 (by rw [xe_cnt]; decide) is_18 np_18 cn_18 (by first | exact rfl | assumption) (Nat.le_of_ble_eq_true rfl) ?_
  refine sp_iden hF hI (by omega) (by omega) (fun h1 G1 c1 n1 F1 I1 e1 v1 => ?_)
  replace E := cE_tr E e1
  with_reducible refine xm_go_blk b_X0_leafPiece_179 k_X0_leafPiece_179 ?_
  refine by_aload_n rfl ?_
  refine by_iconst ci_1 ?_
  refine by_inv1 cn_21 lk_0_76 (by rw [xe_cnt]; decide) is_18 np_18 cn_18 (by first | exact rfl | assumption) (Nat.le_of_ble_eq_true rfl) ?_
  refine sp_iden F1 I1 (by omega) (by omega) (fun h2 G2 c2 n2 F2 I2 e2 v2 => ?_)
  replace v1 := nG_up v1 e2
  replace E := cE_tr E e2
  with_reducible refine xm_go_blk b_X0_leafPiece_184 k_X0_leafPiece_184 ?_
  refine by_inv2 cn_21 lk_0_80 (by rw [xe_cnt]; decide) is_25 np_25 cn_25 (by first | exact rfl | assumption) (Nat.le_of_ble_eq_true rfl) ?_
  refine sp_gpair F2 I2 (by omega) v1 v2 (by omega) (by omega) (fun h3 G3 c3 n3 F3 I3 e3 v3 => ?_)
  replace E := cE_tr E e3
  with_reducible refine xm_go_blk b_X0_leafPiece_187 k_X0_leafPiece_187 ?_
  refine by_aload_n rfl ?_
  refine by_aload_n rfl ?_
  refine by_iconst ci_0 ?_
  refine by_iconst ci_1 ?_
  refine by_inv2 cn_21 lk_0_73 (by rw [xe_cnt]; decide) is_3 np_3 cn_3 (by first | exact rfl | assumption) (Nat.le_of_ble_eq_true rfl) ?_
  refine sp_gbit (by omega) F3 I3 (by omega) (by omega) (fun h4 G4 c4 n4 F4 I4 e4 v4 => ?_)
  replace v3 := nG_up v3 e4
  replace E := cE_tr E e4
  with_reducible refine xm_go_blk b_X0_leafPiece_194 k_X0_leafPiece_194 ?_
  refine by_aload_n rfl ?_
  refine by_bipush cb_6 ?_
  refine by_iconst ci_0 ?_
  refine by_inv2 cn_21 lk_0_83 (by rw [xe_cnt]; decide) is_26 np_26 cn_26 (by first | exact rfl | assumption) (Nat.le_of_ble_eq_true rfl) ?_
  refine sp_pc (a := 0) hP ⟨by omega, by omega, by omega⟩ rfl (by omega) hJ (by omega) F4 I4 (fun h5 G5 c5 n5 F5 I5 e5 p5 => ?_)
  obtain ⟨f5, v5, s5⟩ := p5
  simp only [pS, pT, pSp, Nat.reducePow] at v5 s5
  replace v5 := nG_cg v5 rfl rfl (fun x hx => s5 x hx) (qle_rf _)
  replace v3 := nG_up v3 e5
  replace v4 := nG_up v4 e5
  replace E := cE_tr E e5
  with_reducible refine xm_go_blk b_X0_leafPiece_201 k_X0_leafPiece_201 ?_
  refine by_inv2 cn_21 lk_0_80 (by rw [xe_cnt]; decide) is_25 np_25 cn_25 (by first | exact rfl | assumption) (Nat.le_of_ble_eq_true rfl) ?_
  refine sp_gpair F5 I5 (by omega) v4 v5 (by omega) (by omega) (fun h6 G6 c6 n6 F6 I6 e6 v6 => ?_)
  replace v3 := nG_up v3 e6
  replace E := cE_tr E e6
  with_reducible refine xm_go_blk b_X0_leafPiece_204 k_X0_leafPiece_204 ?_
  refine by_inv2 cn_21 lk_0_98 (by rw [xe_cnt]; decide) is_6 np_6 cn_6 (by first | exact rfl | assumption) (Nat.le_of_ble_eq_true rfl) ?_
  refine sp_choose F6 I6 (by omega) v3 v6 (by omega) (by omega) (by omega) (fun h7 G7 c7 n7 F7 I7 e7 v7 => ?_)
  replace E := cE_tr E e7
  with_reducible refine xm_go_blk b_X0_leafPiece_207 k_X0_leafPiece_207 ?_
  refine by_aload_n rfl ?_
  refine by_aload_n rfl ?_
  refine by_aload_n rfl ?_
  refine by_iconst ci_1 ?_
  refine by_iconst ci_1 ?_
  refine by_inv2 cn_21 lk_0_73 (by rw [xe_cnt]; decide) is_3 np_3 cn_3 (by first | exact rfl | assumption) (Nat.le_of_ble_eq_true rfl) ?_
  refine sp_gbit (by omega) F7 I7 (by omega) (by omega) (fun h8 G8 c8 n8 F8 I8 e8 v8 => ?_)
  replace v7 := nG_up v7 e8
  replace E := cE_tr E e8
  with_reducible refine xm_go_blk b_X0_leafPiece_215 k_X0_leafPiece_215 ?_
  refine by_aload_n rfl ?_
  refine by_bipush cb_6 ?_
  refine by_iconst ci_0 ?_
  refine by_inv2 cn_21 lk_0_83 (by rw [xe_cnt]; decide) is_26 np_26 cn_26 (by first | exact rfl | assumption) (Nat.le_of_ble_eq_true rfl) ?_
  refine sp_pc (a := 0) hP ⟨by omega, by omega, by omega⟩ rfl (by omega) hJ (by omega) F8 I8 (fun h9 G9 c9 n9 F9 I9 e9 p9 => ?_)
  obtain ⟨f9, v9, s9⟩ := p9
  simp only [pS, pT, pSp, Nat.reducePow] at v9 s9
  replace v9 := nG_cg v9 rfl rfl (fun x hx => s9 x hx) (qle_rf _)
  replace v7 := nG_up v7 e9
  replace v8 := nG_up v8 e9
  replace E := cE_tr E e9
  with_reducible refine xm_go_blk b_X0_leafPiece_222 k_X0_leafPiece_222 ?_
  refine by_inv2 cn_21 lk_0_80 (by rw [xe_cnt]; decide) is_25 np_25 cn_25 (by first | exact rfl | assumption) (Nat.le_of_ble_eq_true rfl) ?_
  refine sp_gpair F9 I9 (by omega) v8 v9 (by omega) (by omega) (fun h10 G10 c10 n10 F10 I10 e10 v10 => ?_)
  replace v7 := nG_up v7 e10
  replace E := cE_tr E e10
  with_reducible refine xm_go_blk b_X0_leafPiece_225 k_X0_leafPiece_225 ?_
  refine by_aload_n rfl ?_
  refine by_aload_n rfl ?_
  refine by_iconst ci_1 ?_
  refine by_inv1 cn_21 lk_0_76 (by rw [xe_cnt]; decide) is_18 np_18 cn_18 (by first | exact rfl | assumption) (Nat.le_of_ble_eq_true rfl) ?_
  refine sp_iden F10 I10 (by omega) (by omega) (fun h11 G11 c11 n11 F11 I11 e11 v11 => ?_)
  replace v10 := nG_up v10 e11
  replace v7 := nG_up v7 e11
  replace E := cE_tr E e11
  with_reducible refine xm_go_blk b_X0_leafPiece_231 k_X0_leafPiece_231 ?_
  refine by_aload_n rfl ?_
  refine by_iconst ci_1 ?_
  refine by_inv1 cn_21 lk_0_76 (by rw [xe_cnt]; decide) is_18 np_18 cn_18 (by first | exact rfl | assumption) (Nat.le_of_ble_eq_true rfl) ?_
  refine sp_iden F11 I11 (by omega) (by omega) (fun h12 G12 c12 n12 F12 I12 e12 v12 => ?_)
  replace v10 := nG_up v10 e12
  replace v11 := nG_up v11 e12
  replace v7 := nG_up v7 e12
  replace E := cE_tr E e12
  with_reducible refine xm_go_blk b_X0_leafPiece_236 k_X0_leafPiece_236 ?_
  refine by_inv2 cn_21 lk_0_80 (by rw [xe_cnt]; decide) is_25 np_25 cn_25 (by first | exact rfl | assumption) (Nat.le_of_ble_eq_true rfl) ?_
  refine sp_gpair F12 I12 (by omega) v11 v12 (by omega) (by omega) (fun h13 G13 c13 n13 F13 I13 e13 v13 => ?_)
  replace v10 := nG_up v10 e13
  replace v7 := nG_up v7 e13
  replace E := cE_tr E e13
  with_reducible refine xm_go_blk b_X0_leafPiece_239 k_X0_leafPiece_239 ?_
  refine by_inv2 cn_21 lk_0_98 (by rw [xe_cnt]; decide) is_6 np_6 cn_6 (by first | exact rfl | assumption) (Nat.le_of_ble_eq_true rfl) ?_
  refine sp_choose F13 I13 (by omega) v10 v13 (by omega) (by omega) (by omega) (fun h14 G14 c14 n14 F14 I14 e14 v14 => ?_)
  replace v7 := nG_up v7 e14
  replace E := cE_tr E e14
  with_reducible refine xm_go_blk b_X0_leafPiece_242 k_X0_leafPiece_242 ?_
  refine by_inv2 cn_21 lk_0_98 (by rw [xe_cnt]; decide) is_6 np_6 cn_6 (by first | exact rfl | assumption) (Nat.le_of_ble_eq_true rfl) ?_
  refine sp_choose F14 I14 (by omega) v7 v14 (by omega) (by omega) (by omega) (fun h15 G15 c15 n15 F15 I15 e15 v15 => ?_)
  replace E := cE_tr E e15
  with_reducible refine xm_go_blk b_X0_leafPiece_245 k_X0_leafPiece_245 ?_
  refine by_iret ry_21 (by first | rfl | assumption) ?_
  exact hp _ _ _ _ F15 (cI_mono I15 (by omega) hm) E ⟨_, nG_cg v15 rfl rfl (fun _ _ => rfl) (by decide), by intro c x y hc hx hy; obtain ⟨a, rfl⟩ := li_1 hc; obtain ⟨b, rfl⟩ := li_1 hx; obtain ⟨e, rfl⟩ := li_1 hy; cases a <;> cases b <;> cases e <;> rfl⟩
theorem bl_2 : BdOK sc 2 0 := by
  intro r d c m h G J post hP hr hd hF hI hJ hm hp
  have hr' : r = 0 := by rw [hr]; decide
  have ho : oc 2 0 = 1 := by decide
  rw [ho] at hm hp
  rw [if_neg (by decide), if_pos rfl]
  refine xq_in rfl ?_
  simp only [xq_a0, xq_aI, xq_aJ, xq_aR, Nat.reduceAdd]
  have E : cE h G c h G c := cE_rf
  with_reducible refine xm_go_blk b_X0_leafPiece_0 k_X0_leafPiece_0 ?_
  refine by_iload_n rfl ?_
  refine by_sw ?_
  refine xq_sw 246 (by decide) (by decide) ?_
  with_reducible refine xm_go_blk b_X0_leafPiece_246 k_X0_leafPiece_246 ?_
  refine by_aload_n rfl ?_
  refine by_iconst ci_1 ?_
  refine by_iconst ci_1 ?_
  refine by_inv2 cn_21 lk_0_95 (by rw [xe_cnt]; decide) is_15 np_15 cn_15 (by first | exact rfl | assumption) (Nat.le_of_ble_eq_true rfl) ?_
  refine sp_first hF hI (by omega) (by omega) (fun h1 G1 c1 n1 F1 I1 e1 v1 => ?_)
  replace E := cE_tr E e1
  with_reducible refine xm_go_blk b_X0_leafPiece_252 k_X0_leafPiece_252 ?_
  refine by_iret ry_21 (by first | rfl | assumption) ?_
  exact hp _ _ _ _ F1 (cI_mono I1 (by omega) hm) E ⟨_, nG_cg v1 rfl rfl (fun _ _ => rfl) (by decide), by intro x y hx hy; obtain ⟨a, rfl⟩ := li_1 hx; obtain ⟨b, rfl⟩ := li_1 hy; cases a <;> cases b <;> rfl⟩
theorem bl_3 : BdOK sc 3 0 := by
  intro r d c m h G J post hP hr hd hF hI hJ hm hp
  have hr' : r = 2 := by rw [hr]; decide
  have ho : oc 3 0 = 5 := by decide
  rw [ho] at hm hp
  rw [if_neg (by decide), if_pos rfl]
  refine xq_in rfl ?_
  simp only [xq_a0, xq_aI, xq_aJ, xq_aR, Nat.reduceAdd]
  have E : cE h G c h G c := cE_rf
  with_reducible refine xm_go_blk b_X0_leafPiece_0 k_X0_leafPiece_0 ?_
  refine by_iload_n rfl ?_
  refine by_sw ?_
  refine xq_sw 260 (by decide) (by decide) ?_
  with_reducible refine xm_go_blk b_X0_leafPiece_260 k_X0_leafPiece_260 ?_
  refine by_aload_n rfl ?_
  refine by_aload_n rfl ?_
  refine by_aload_n rfl ?_
  refine by_aload_n rfl ?_
  refine by_bipush cb_7 ?_
  refine by_iconst ci_0 ?_
  refine by_inv2 cn_21 lk_0_83 (by rw [xe_cnt]; decide) is_26 np_26 cn_26 (by first | exact rfl | assumption) (Nat.le_of_ble_eq_true rfl) ?_
  refine sp_pc (a := 0) hP ⟨by omega, by omega, by omega⟩ rfl (by omega) hJ (by omega) hF hI (fun h1 G1 c1 n1 F1 I1 e1 p1 => ?_)
  obtain ⟨f1, v1, s1⟩ := p1
  simp only [pS, pT, pSp, Nat.reducePow] at v1 s1
  replace v1 := nG_cg v1 rfl rfl (fun x hx => li_f2 s1 x (by omega)) (qle_rf _)
  replace E := cE_tr E e1
  with_reducible refine xm_go_blk b_X0_leafPiece_270 k_X0_leafPiece_270 ?_
  refine by_iconst ci_2 ?_
  refine by_inv2 cn_21 lk_0_101 (by rw [xe_cnt]; decide) is_33 np_33 cn_33 (by first | exact rfl | assumption) (Nat.le_of_ble_eq_true rfl) ?_
  refine sp_gtake F1 I1 (by omega) v1 (by omega) (fun h2 G2 c2 n2 F2 I2 e2 v2 => ?_)
  replace E := cE_tr E e2
  with_reducible refine xm_go_blk b_X0_leafPiece_274 k_X0_leafPiece_274 ?_
  refine by_aload_n rfl ?_
  refine by_iconst ci_2 ?_
  refine by_iconst ci_2 ?_
  refine by_inv2 cn_21 lk_0_92 (by rw [xe_cnt]; decide) is_32 np_32 cn_32 (by first | exact rfl | assumption) (Nat.le_of_ble_eq_true rfl) ?_
  refine sp_second F2 I2 (by omega) (by omega) (fun h3 G3 c3 n3 F3 I3 e3 v3 => ?_)
  replace v2 := nG_up v2 e3
  replace E := cE_tr E e3
  with_reducible refine xm_go_blk b_X0_leafPiece_280 k_X0_leafPiece_280 ?_
  refine by_inv2 cn_21 lk_0_80 (by rw [xe_cnt]; decide) is_25 np_25 cn_25 (by first | exact rfl | assumption) (Nat.le_of_ble_eq_true rfl) ?_
  refine sp_gpair F3 I3 (by omega) v2 v3 (by omega) (by omega) (fun h4 G4 c4 n4 F4 I4 e4 v4 => ?_)
  replace E := cE_tr E e4
  with_reducible refine xm_go_blk b_X0_leafPiece_283 k_X0_leafPiece_283 ?_
  refine by_aload_n rfl ?_
  refine by_iconst ci_0 ?_
  refine by_iconst ci_0 ?_
  refine by_inv2 cn_21 lk_0_83 (by rw [xe_cnt]; decide) is_26 np_26 cn_26 (by first | exact rfl | assumption) (Nat.le_of_ble_eq_true rfl) ?_
  refine sp_pc (a := 1) hP ⟨by omega, by omega, by omega⟩ rfl (by omega) hJ (by omega) F4 I4 (fun h5 G5 c5 n5 F5 I5 e5 p5 => ?_)
  obtain ⟨f5, v5, s5⟩ := p5
  simp only [pS, pT, pSp, Nat.reducePow] at v5 s5
  replace v5 := nG_cg v5 rfl rfl (fun x hx => li_f3 s5 x (by omega)) (qle_rf _)
  replace v4 := nG_up v4 e5
  replace E := cE_tr E e5
  with_reducible refine xm_go_blk b_X0_leafPiece_289 k_X0_leafPiece_289 ?_
  refine by_inv2 cn_21 lk_0_86 (by rw [xe_cnt]; decide) is_7 np_7 cn_7 (by first | exact rfl | assumption) (Nat.le_of_ble_eq_true rfl) ?_
  refine sp_gcomp F5 I5 (by omega) v4 v5 (by omega) (fun h6 G6 c6 n6 F6 I6 e6 v6 => ?_)
  replace E := cE_tr E e6
  with_reducible refine xm_go_blk b_X0_leafPiece_292 k_X0_leafPiece_292 ?_
  refine by_iret ry_21 (by first | rfl | assumption) ?_
  exact hp _ _ _ _ F6 (cI_mono I6 (by omega) hm) E ⟨_, nG_cg v6 rfl rfl (fun _ _ => rfl) (by decide), by intro x y z v hx hy hz hv; obtain ⟨a, rfl⟩ := li_1 hx; obtain ⟨b, rfl⟩ := li_1 hy; obtain ⟨e, rfl⟩ := li_1 hz; obtain ⟨g, rfl⟩ := li_1 hv; cases a <;> cases b <;> cases e <;> cases g <;> rfl⟩
theorem bl_4 : BdOK sc 4 0 := by
  intro r d c m h G J post hP hr hd hF hI hJ hm hp
  have hr' : r = 0 := by rw [hr]; decide
  have ho : oc 4 0 = 1 := by decide
  rw [ho] at hm hp
  rw [if_neg (by decide), if_pos rfl]
  refine xq_in rfl ?_
  simp only [xq_a0, xq_aI, xq_aJ, xq_aR, Nat.reduceAdd]
  have E : cE h G c h G c := cE_rf
  with_reducible refine xm_go_blk b_X0_leafPiece_0 k_X0_leafPiece_0 ?_
  refine by_iload_n rfl ?_
  refine by_sw ?_
  refine xq_sw 476 (by decide) (by decide) ?_
  with_reducible refine xm_go_blk b_X0_leafPiece_476 k_X0_leafPiece_476 ?_
  refine by_aload_n rfl ?_
  refine by_iconst ci_1 ?_
  refine by_inv1 cn_21 lk_0_76 (by rw [xe_cnt]; decide) is_18 np_18 cn_18 (by first | exact rfl | assumption) (Nat.le_of_ble_eq_true rfl) ?_
  refine sp_iden hF hI (by omega) (by omega) (fun h1 G1 c1 n1 F1 I1 e1 v1 => ?_)
  replace E := cE_tr E e1
  with_reducible refine xm_go_blk b_X0_leafPiece_481 k_X0_leafPiece_481 ?_
  refine by_iret ry_21 (by first | rfl | assumption) ?_
  exact hp _ _ _ _ F1 (cI_mono I1 (by omega) hm) E ⟨_, nG_cg v1 rfl rfl (fun _ _ => rfl) (by decide), by intro x hx; obtain ⟨a, rfl⟩ := li_1 hx; cases a <;> rfl⟩
theorem bl_5 : BdOK sc 5 0 := by
  intro r d c m h G J post hP hr hd hF hI hJ hm hp
  have hr' : r = 0 := by rw [hr]; decide
  have ho : oc 5 0 = 1 := by decide
  rw [ho] at hm hp
  rw [if_neg (by decide), if_pos rfl]
  refine xq_in rfl ?_
  simp only [xq_a0, xq_aI, xq_aJ, xq_aR, Nat.reduceAdd]
  have E : cE h G c h G c := cE_rf
  with_reducible refine xm_go_blk b_X0_leafPiece_0 k_X0_leafPiece_0 ?_
  refine by_iload_n rfl ?_
  refine by_sw ?_
  refine xq_sw 476 (by decide) (by decide) ?_
  with_reducible refine xm_go_blk b_X0_leafPiece_476 k_X0_leafPiece_476 ?_
  refine by_aload_n rfl ?_
  refine by_iconst ci_1 ?_
  refine by_inv1 cn_21 lk_0_76 (by rw [xe_cnt]; decide) is_18 np_18 cn_18 (by first | exact rfl | assumption) (Nat.le_of_ble_eq_true rfl) ?_
  refine sp_iden hF hI (by omega) (by omega) (fun h1 G1 c1 n1 F1 I1 e1 v1 => ?_)
  replace E := cE_tr E e1
  with_reducible refine xm_go_blk b_X0_leafPiece_481 k_X0_leafPiece_481 ?_
  refine by_iret ry_21 (by first | rfl | assumption) ?_
  exact hp _ _ _ _ F1 (cI_mono I1 (by omega) hm) E ⟨_, nG_cg v1 rfl rfl (fun _ _ => rfl) (by decide), by intro x hx; obtain ⟨a, rfl⟩ := li_1 hx; cases a <;> rfl⟩
theorem bl_6 : BdOK sc 6 0 := by
  intro r d c m h G J post hP hr hd hF hI hJ hm hp
  have hr' : r = 0 := by rw [hr]; decide
  have ho : oc 6 0 = 10 := by decide
  rw [ho] at hm hp
  rw [if_neg (by decide), if_pos rfl]
  refine xq_in rfl ?_
  simp only [xq_a0, xq_aI, xq_aJ, xq_aR, Nat.reduceAdd]
  have E : cE h G c h G c := cE_rf
  with_reducible refine xm_go_blk b_X0_leafPiece_0 k_X0_leafPiece_0 ?_
  refine by_iload_n rfl ?_
  refine by_sw ?_
  refine xq_sw 441 (by decide) (by decide) ?_
  with_reducible refine xm_go_blk b_X0_leafPiece_441 k_X0_leafPiece_441 ?_
  refine by_aload_n rfl ?_
  refine by_aload_n rfl ?_
  refine by_aload_n rfl ?_
  refine by_iconst ci_1 ?_
  refine by_inv1 cn_21 lk_0_76 (by rw [xe_cnt]; decide) is_18 np_18 cn_18 (by first | exact rfl | assumption) (Nat.le_of_ble_eq_true rfl) ?_
  refine sp_iden hF hI (by omega) (by omega) (fun h1 G1 c1 n1 F1 I1 e1 v1 => ?_)
  replace E := cE_tr E e1
  with_reducible refine xm_go_blk b_X0_leafPiece_448 k_X0_leafPiece_448 ?_
  refine by_aload_n rfl ?_
  refine by_iconst ci_1 ?_
  refine by_inv1 cn_21 lk_0_127 (by rw [xe_cnt]; decide) is_35 np_35 cn_35 (by first | exact rfl | assumption) (Nat.le_of_ble_eq_true rfl) ?_
  refine sp_unit F1 I1 (by omega) (by omega) (fun h2 G2 c2 n2 F2 I2 e2 v2 => ?_)
  replace v1 := nG_up v1 e2
  replace E := cE_tr E e2
  with_reducible refine xm_go_blk b_X0_leafPiece_453 k_X0_leafPiece_453 ?_
  refine by_inv2 cn_21 lk_0_80 (by rw [xe_cnt]; decide) is_25 np_25 cn_25 (by first | exact rfl | assumption) (Nat.le_of_ble_eq_true rfl) ?_
  refine sp_gpair F2 I2 (by omega) v1 v2 (by omega) (by omega) (fun h3 G3 c3 n3 F3 I3 e3 v3 => ?_)
  replace E := cE_tr E e3
  with_reducible refine xm_go_blk b_X0_leafPiece_456 k_X0_leafPiece_456 ?_
  refine by_aload_n rfl ?_
  refine by_aload_n rfl ?_
  refine by_iconst ci_1 ?_
  refine by_iconst ci_0 ?_
  refine by_inv2 cn_21 lk_0_73 (by rw [xe_cnt]; decide) is_3 np_3 cn_3 (by first | exact rfl | assumption) (Nat.le_of_ble_eq_true rfl) ?_
  refine sp_gbit (by omega) F3 I3 (by omega) (by omega) (fun h4 G4 c4 n4 F4 I4 e4 v4 => ?_)
  replace v3 := nG_up v3 e4
  replace E := cE_tr E e4
  with_reducible refine xm_go_blk b_X0_leafPiece_463 k_X0_leafPiece_463 ?_
  refine by_aload_n rfl ?_
  refine by_iconst ci_0 ?_
  refine by_iconst ci_0 ?_
  refine by_inv2 cn_21 lk_0_73 (by rw [xe_cnt]; decide) is_3 np_3 cn_3 (by first | exact rfl | assumption) (Nat.le_of_ble_eq_true rfl) ?_
  refine sp_gbit (by omega) F4 I4 (by omega) (by omega) (fun h5 G5 c5 n5 F5 I5 e5 v5 => ?_)
  replace v3 := nG_up v3 e5
  replace v4 := nG_up v4 e5
  replace E := cE_tr E e5
  with_reducible refine xm_go_blk b_X0_leafPiece_469 k_X0_leafPiece_469 ?_
  refine by_inv2 cn_21 lk_0_98 (by rw [xe_cnt]; decide) is_6 np_6 cn_6 (by first | exact rfl | assumption) (Nat.le_of_ble_eq_true rfl) ?_
  refine sp_choose F5 I5 (by omega) v4 v5 (by omega) (by omega) (by omega) (fun h6 G6 c6 n6 F6 I6 e6 v6 => ?_)
  replace v3 := nG_up v3 e6
  replace E := cE_tr E e6
  with_reducible refine xm_go_blk b_X0_leafPiece_472 k_X0_leafPiece_472 ?_
  refine by_inv2 cn_21 lk_0_86 (by rw [xe_cnt]; decide) is_7 np_7 cn_7 (by first | exact rfl | assumption) (Nat.le_of_ble_eq_true rfl) ?_
  refine sp_gcomp F6 I6 (by omega) v3 v6 (by omega) (fun h7 G7 c7 n7 F7 I7 e7 v7 => ?_)
  replace E := cE_tr E e7
  with_reducible refine xm_go_blk b_X0_leafPiece_475 k_X0_leafPiece_475 ?_
  refine by_iret ry_21 (by first | rfl | assumption) ?_
  exact hp _ _ _ _ F7 (cI_mono I7 (by omega) hm) E ⟨_, nG_cg v7 rfl rfl (fun _ _ => rfl) (by decide), by intro x hx; obtain ⟨a, rfl⟩ := li_1 hx; cases a <;> rfl⟩
theorem bl_7 : BdOK sc 7 0 := by
  intro r d c m h G J post hP hr hd hF hI hJ hm hp
  have hr' : r = 0 := by rw [hr]; decide
  have ho : oc 7 0 = 4 := by decide
  rw [ho] at hm hp
  rw [if_neg (by decide), if_pos rfl]
  refine xq_in rfl ?_
  simp only [xq_a0, xq_aI, xq_aJ, xq_aR, Nat.reduceAdd]
  have E : cE h G c h G c := cE_rf
  with_reducible refine xm_go_blk b_X0_leafPiece_0 k_X0_leafPiece_0 ?_
  refine by_iload_n rfl ?_
  refine by_sw ?_
  refine xq_sw 293 (by decide) (by decide) ?_
  with_reducible refine xm_go_blk b_X0_leafPiece_293 k_X0_leafPiece_293 ?_
  refine by_aload_n rfl ?_
  refine by_aload_n rfl ?_
  refine by_iconst ci_0 ?_
  refine by_iconst ci_1 ?_
  refine by_inv2 cn_21 lk_0_73 (by rw [xe_cnt]; decide) is_3 np_3 cn_3 (by first | exact rfl | assumption) (Nat.le_of_ble_eq_true rfl) ?_
  refine sp_gbit (by omega) hF hI (by omega) (by omega) (fun h1 G1 c1 n1 F1 I1 e1 v1 => ?_)
  replace E := cE_tr E e1
  with_reducible refine xm_go_blk b_X0_leafPiece_300 k_X0_leafPiece_300 ?_
  refine by_aload_n rfl ?_
  refine by_iconst ci_1 ?_
  refine by_inv1 cn_21 lk_0_76 (by rw [xe_cnt]; decide) is_18 np_18 cn_18 (by first | exact rfl | assumption) (Nat.le_of_ble_eq_true rfl) ?_
  refine sp_iden F1 I1 (by omega) (by omega) (fun h2 G2 c2 n2 F2 I2 e2 v2 => ?_)
  replace v1 := nG_up v1 e2
  replace E := cE_tr E e2
  with_reducible refine xm_go_blk b_X0_leafPiece_305 k_X0_leafPiece_305 ?_
  refine by_inv2 cn_21 lk_0_98 (by rw [xe_cnt]; decide) is_6 np_6 cn_6 (by first | exact rfl | assumption) (Nat.le_of_ble_eq_true rfl) ?_
  refine sp_choose F2 I2 (by omega) v1 v2 (by omega) (by omega) (by omega) (fun h3 G3 c3 n3 F3 I3 e3 v3 => ?_)
  replace E := cE_tr E e3
  with_reducible refine xm_go_blk b_X0_leafPiece_308 k_X0_leafPiece_308 ?_
  refine by_iret ry_21 (by first | rfl | assumption) ?_
  exact hp _ _ _ _ F3 (cI_mono I3 (by omega) hm) E ⟨_, nG_cg v3 rfl rfl (fun _ _ => rfl) (by decide), by intro x y hx hy; obtain ⟨a, rfl⟩ := li_1 hx; obtain ⟨b, rfl⟩ := li_1 hy; cases a <;> cases b <;> rfl⟩
theorem bl_8 : BdOK sc 8 0 := by
  intro r d c m h G J post hP hr hd hF hI hJ hm hp
  have hr' : r = 0 := by rw [hr]; decide
  have ho : oc 8 0 = 4 := by decide
  rw [ho] at hm hp
  rw [if_neg (by decide), if_pos rfl]
  refine xq_in rfl ?_
  simp only [xq_a0, xq_aI, xq_aJ, xq_aR, Nat.reduceAdd]
  have E : cE h G c h G c := cE_rf
  with_reducible refine xm_go_blk b_X0_leafPiece_0 k_X0_leafPiece_0 ?_
  refine by_iload_n rfl ?_
  refine by_sw ?_
  refine xq_sw 309 (by decide) (by decide) ?_
  with_reducible refine xm_go_blk b_X0_leafPiece_309 k_X0_leafPiece_309 ?_
  refine by_aload_n rfl ?_
  refine by_aload_n rfl ?_
  refine by_iconst ci_1 ?_
  refine by_inv1 cn_21 lk_0_76 (by rw [xe_cnt]; decide) is_18 np_18 cn_18 (by first | exact rfl | assumption) (Nat.le_of_ble_eq_true rfl) ?_
  refine sp_iden hF hI (by omega) (by omega) (fun h1 G1 c1 n1 F1 I1 e1 v1 => ?_)
  replace E := cE_tr E e1
  with_reducible refine xm_go_blk b_X0_leafPiece_315 k_X0_leafPiece_315 ?_
  refine by_aload_n rfl ?_
  refine by_iconst ci_1 ?_
  refine by_iconst ci_1 ?_
  refine by_inv2 cn_21 lk_0_73 (by rw [xe_cnt]; decide) is_3 np_3 cn_3 (by first | exact rfl | assumption) (Nat.le_of_ble_eq_true rfl) ?_
  refine sp_gbit (by omega) F1 I1 (by omega) (by omega) (fun h2 G2 c2 n2 F2 I2 e2 v2 => ?_)
  replace v1 := nG_up v1 e2
  replace E := cE_tr E e2
  with_reducible refine xm_go_blk b_X0_leafPiece_321 k_X0_leafPiece_321 ?_
  refine by_inv2 cn_21 lk_0_98 (by rw [xe_cnt]; decide) is_6 np_6 cn_6 (by first | exact rfl | assumption) (Nat.le_of_ble_eq_true rfl) ?_
  refine sp_choose F2 I2 (by omega) v1 v2 (by omega) (by omega) (by omega) (fun h3 G3 c3 n3 F3 I3 e3 v3 => ?_)
  replace E := cE_tr E e3
  with_reducible refine xm_go_blk b_X0_leafPiece_324 k_X0_leafPiece_324 ?_
  refine by_iret ry_21 (by first | rfl | assumption) ?_
  exact hp _ _ _ _ F3 (cI_mono I3 (by omega) hm) E ⟨_, nG_cg v3 rfl rfl (fun _ _ => rfl) (by decide), by intro x y hx hy; obtain ⟨a, rfl⟩ := li_1 hx; obtain ⟨b, rfl⟩ := li_1 hy; cases a <;> cases b <;> rfl⟩
theorem bl_9 : BdOK sc 9 0 := by
  intro r d c m h G J post hP hr hd hF hI hJ hm hp
  have hr' : r = 1 := by rw [hr]; decide
  have ho : oc 9 0 = 2 := by decide
  rw [ho] at hm hp
  rw [if_neg (by decide), if_pos rfl]
  refine xq_in rfl ?_
  simp only [xq_a0, xq_aI, xq_aJ, xq_aR, Nat.reduceAdd]
  have E : cE h G c h G c := cE_rf
  with_reducible refine xm_go_blk b_X0_leafPiece_0 k_X0_leafPiece_0 ?_
  refine by_iload_n rfl ?_
  refine by_sw ?_
  refine xq_sw 325 (by decide) (by decide) ?_
  with_reducible refine xm_go_blk b_X0_leafPiece_325 k_X0_leafPiece_325 ?_
  refine by_aload_n rfl ?_
  refine by_aload_n rfl ?_
  refine by_iconst ci_1 ?_
  refine by_inv1 cn_21 lk_0_76 (by rw [xe_cnt]; decide) is_18 np_18 cn_18 (by first | exact rfl | assumption) (Nat.le_of_ble_eq_true rfl) ?_
  refine sp_iden hF hI (by omega) (by omega) (fun h1 G1 c1 n1 F1 I1 e1 v1 => ?_)
  replace E := cE_tr E e1
  with_reducible refine xm_go_blk b_X0_leafPiece_331 k_X0_leafPiece_331 ?_
  refine by_aload_n rfl ?_
  refine by_bipush cb_6 ?_
  refine by_iconst ci_0 ?_
  refine by_inv2 cn_21 lk_0_83 (by rw [xe_cnt]; decide) is_26 np_26 cn_26 (by first | exact rfl | assumption) (Nat.le_of_ble_eq_true rfl) ?_
  refine sp_pc (a := 0) hP ⟨by omega, by omega, by omega⟩ rfl (by omega) hJ (by omega) F1 I1 (fun h2 G2 c2 n2 F2 I2 e2 p2 => ?_)
  obtain ⟨f2, v2, s2⟩ := p2
  simp only [pS, pT, pSp, Nat.reducePow] at v2 s2
  replace v2 := nG_cg v2 rfl rfl (fun x hx => s2 x hx) (qle_rf _)
  replace v1 := nG_up v1 e2
  replace E := cE_tr E e2
  with_reducible refine xm_go_blk b_X0_leafPiece_338 k_X0_leafPiece_338 ?_
  refine by_inv2 cn_21 lk_0_98 (by rw [xe_cnt]; decide) is_6 np_6 cn_6 (by first | exact rfl | assumption) (Nat.le_of_ble_eq_true rfl) ?_
  refine sp_choose F2 I2 (by omega) v1 v2 (by omega) (by omega) (by omega) (fun h3 G3 c3 n3 F3 I3 e3 v3 => ?_)
  replace E := cE_tr E e3
  with_reducible refine xm_go_blk b_X0_leafPiece_341 k_X0_leafPiece_341 ?_
  refine by_iret ry_21 (by first | rfl | assumption) ?_
  exact hp _ _ _ _ F3 (cI_mono I3 (by omega) hm) E ⟨_, nG_cg v3 rfl rfl (fun _ _ => rfl) (by decide), by intro x y hx hy; obtain ⟨a, rfl⟩ := li_1 hx; obtain ⟨b, rfl⟩ := li_1 hy; cases a <;> cases b <;> rfl⟩
theorem bl_10 : BdOK sc 10 0 := by
  intro r d c m h G J post hP hr hd hF hI hJ hm hp
  have hr' : r = 2 := by rw [hr]; decide
  have ho : oc 10 0 = 3 := by decide
  rw [ho] at hm hp
  rw [if_neg (by decide), if_pos rfl]
  refine xq_in rfl ?_
  simp only [xq_a0, xq_aI, xq_aJ, xq_aR, Nat.reduceAdd]
  have E : cE h G c h G c := cE_rf
  with_reducible refine xm_go_blk b_X0_leafPiece_0 k_X0_leafPiece_0 ?_
  refine by_iload_n rfl ?_
  refine by_sw ?_
  refine xq_sw 342 (by decide) (by decide) ?_
  with_reducible refine xm_go_blk b_X0_leafPiece_342 k_X0_leafPiece_342 ?_
  refine by_aload_n rfl ?_
  refine by_aload_n rfl ?_
  refine by_bipush cb_9 ?_
  refine by_iconst ci_0 ?_
  refine by_inv2 cn_21 lk_0_83 (by rw [xe_cnt]; decide) is_26 np_26 cn_26 (by first | exact rfl | assumption) (Nat.le_of_ble_eq_true rfl) ?_
  refine sp_pc (a := 1) hP ⟨by omega, by omega, by omega⟩ rfl (by omega) hJ (by omega) hF hI (fun h1 G1 c1 n1 F1 I1 e1 p1 => ?_)
  obtain ⟨f1, v1, s1⟩ := p1
  simp only [pS, pT, pSp, Nat.reducePow] at v1 s1
  replace v1 := nG_cg v1 rfl rfl (fun x hx => li_f2 s1 x (by omega)) (qle_rf _)
  replace E := cE_tr E e1
  with_reducible refine xm_go_blk b_X0_leafPiece_350 k_X0_leafPiece_350 ?_
  refine by_aload_n rfl ?_
  refine by_aload_n rfl ?_
  refine by_bipush cb_6 ?_
  refine by_iconst ci_0 ?_
  refine by_inv2 cn_21 lk_0_83 (by rw [xe_cnt]; decide) is_26 np_26 cn_26 (by first | exact rfl | assumption) (Nat.le_of_ble_eq_true rfl) ?_
  refine sp_pc (a := 0) hP ⟨by omega, by omega, by omega⟩ rfl (by omega) hJ (by omega) F1 I1 (fun h2 G2 c2 n2 F2 I2 e2 p2 => ?_)
  obtain ⟨f2, v2, s2⟩ := p2
  simp only [pS, pT, pSp, Nat.reducePow] at v2 s2
  replace v2 := nG_cg v2 rfl rfl (fun x hx => s2 x hx) (qle_rf _)
  replace v1 := nG_up v1 e2
  replace E := cE_tr E e2
  with_reducible refine xm_go_blk b_X0_leafPiece_358 k_X0_leafPiece_358 ?_
  refine by_aload_n rfl ?_
  refine by_iconst ci_1 ?_
  refine by_inv1 cn_21 lk_0_76 (by rw [xe_cnt]; decide) is_18 np_18 cn_18 (by first | exact rfl | assumption) (Nat.le_of_ble_eq_true rfl) ?_
  refine sp_iden F2 I2 (by omega) (by omega) (fun h3 G3 c3 n3 F3 I3 e3 v3 => ?_)
  replace v1 := nG_up v1 e3
  replace v2 := nG_up v2 e3
  replace E := cE_tr E e3
  with_reducible refine xm_go_blk b_X0_leafPiece_363 k_X0_leafPiece_363 ?_
  refine by_inv2 cn_21 lk_0_98 (by rw [xe_cnt]; decide) is_6 np_6 cn_6 (by first | exact rfl | assumption) (Nat.le_of_ble_eq_true rfl) ?_
  refine sp_choose F3 I3 (by omega) v2 v3 (by omega) (by omega) (by omega) (fun h4 G4 c4 n4 F4 I4 e4 v4 => ?_)
  replace v1 := nG_up v1 e4
  replace E := cE_tr E e4
  with_reducible refine xm_go_blk b_X0_leafPiece_366 k_X0_leafPiece_366 ?_
  refine by_inv2 cn_21 lk_0_98 (by rw [xe_cnt]; decide) is_6 np_6 cn_6 (by first | exact rfl | assumption) (Nat.le_of_ble_eq_true rfl) ?_
  refine sp_choose F4 I4 (by omega) v1 v4 (by omega) (by omega) (by omega) (fun h5 G5 c5 n5 F5 I5 e5 v5 => ?_)
  replace E := cE_tr E e5
  with_reducible refine xm_go_blk b_X0_leafPiece_369 k_X0_leafPiece_369 ?_
  refine by_iret ry_21 (by first | rfl | assumption) ?_
  exact hp _ _ _ _ F5 (cI_mono I5 (by omega) hm) E ⟨_, nG_cg v5 rfl rfl (fun _ _ => rfl) (by decide), by intro c x y hc hx hy; obtain ⟨a, rfl⟩ := li_1 hc; obtain ⟨b, rfl⟩ := li_1 hx; obtain ⟨e, rfl⟩ := li_1 hy; cases a <;> cases b <;> cases e <;> rfl⟩
theorem bl_11 : BdOK sc 11 0 := by
  intro r d c m h G J post hP hr hd hF hI hJ hm hp
  have hr' : r = 1 := by rw [hr]; decide
  have ho : oc 11 0 = 1 := by decide
  rw [ho] at hm hp
  rw [if_neg (by decide), if_pos rfl]
  refine xq_in rfl ?_
  simp only [xq_a0, xq_aI, xq_aJ, xq_aR, Nat.reduceAdd]
  have E : cE h G c h G c := cE_rf
  with_reducible refine xm_go_blk b_X0_leafPiece_0 k_X0_leafPiece_0 ?_
  refine by_iload_n rfl ?_
  refine by_sw ?_
  refine xq_sw 370 (by decide) (by decide) ?_
  with_reducible refine xm_go_blk b_X0_leafPiece_370 k_X0_leafPiece_370 ?_
  refine by_aload_n rfl ?_
  refine by_aload_n rfl ?_
  refine by_bipush cb_7 ?_
  refine by_iconst ci_0 ?_
  refine by_inv2 cn_21 lk_0_83 (by rw [xe_cnt]; decide) is_26 np_26 cn_26 (by first | exact rfl | assumption) (Nat.le_of_ble_eq_true rfl) ?_
  refine sp_pc (a := 0) hP ⟨by omega, by omega, by omega⟩ rfl (by omega) hJ (by omega) hF hI (fun h1 G1 c1 n1 F1 I1 e1 p1 => ?_)
  obtain ⟨f1, v1, s1⟩ := p1
  simp only [pS, pT, pSp, Nat.reducePow] at v1 s1
  replace v1 := nG_cg v1 rfl rfl (fun x hx => li_f2 s1 x (by omega)) (qle_rf _)
  replace E := cE_tr E e1
  with_reducible refine xm_go_blk b_X0_leafPiece_378 k_X0_leafPiece_378 ?_
  refine by_aload_n rfl ?_
  refine by_bipush cb_8 ?_
  refine by_iconst ci_0 ?_
  refine by_inv2 cn_21 lk_0_83 (by rw [xe_cnt]; decide) is_26 np_26 cn_26 (by first | exact rfl | assumption) (Nat.le_of_ble_eq_true rfl) ?_
  refine sp_pc (a := 0) hP ⟨by omega, by omega, by omega⟩ rfl (by omega) hJ (by omega) F1 I1 (fun h2 G2 c2 n2 F2 I2 e2 p2 => ?_)
  obtain ⟨f2, v2, s2⟩ := p2
  simp only [pS, pT, pSp, Nat.reducePow] at v2 s2
  replace v2 := nG_cg v2 rfl rfl (fun x hx => li_f2 s2 x (by omega)) (qle_rf _)
  replace v1 := nG_up v1 e2
  replace E := cE_tr E e2
  with_reducible refine xm_go_blk b_X0_leafPiece_385 k_X0_leafPiece_385 ?_
  refine by_inv2 cn_21 lk_0_98 (by rw [xe_cnt]; decide) is_6 np_6 cn_6 (by first | exact rfl | assumption) (Nat.le_of_ble_eq_true rfl) ?_
  refine sp_choose F2 I2 (by omega) v1 v2 (by omega) (by omega) (by omega) (fun h3 G3 c3 n3 F3 I3 e3 v3 => ?_)
  replace E := cE_tr E e3
  with_reducible refine xm_go_blk b_X0_leafPiece_388 k_X0_leafPiece_388 ?_
  refine by_iret ry_21 (by first | rfl | assumption) ?_
  exact hp _ _ _ _ F3 (cI_mono I3 (by omega) hm) E ⟨_, nG_cg v3 rfl rfl (fun _ _ => rfl) (by decide), by intro c x y hc hx hy; obtain ⟨a, rfl⟩ := li_1 hc; obtain ⟨b, rfl⟩ := li_1 hx; obtain ⟨e, rfl⟩ := li_1 hy; cases a <;> cases b <;> cases e <;> rfl⟩
theorem bl_12 : BdOK sc 12 0 := by
  intro r d c m h G J post hP hr hd hF hI hJ hm hp
  have hr' : r = 0 := by rw [hr]; decide
  have ho : oc 12 0 = 3 := by decide
  rw [ho] at hm hp
  rw [if_neg (by decide), if_pos rfl]
  refine xq_in rfl ?_
  simp only [xq_a0, xq_aI, xq_aJ, xq_aR, Nat.reduceAdd]
  have E : cE h G c h G c := cE_rf
  with_reducible refine xm_go_blk b_X0_leafPiece_0 k_X0_leafPiece_0 ?_
  refine by_iload_n rfl ?_
  refine by_sw ?_
  refine xq_sw 389 (by decide) (by decide) ?_
  with_reducible refine xm_go_blk b_X0_leafPiece_389 k_X0_leafPiece_389 ?_
  refine by_aload_n rfl ?_
  refine by_aload_n rfl ?_
  refine by_iconst ci_1 ?_
  refine by_iconst ci_1 ?_
  refine by_inv2 cn_21 lk_0_92 (by rw [xe_cnt]; decide) is_32 np_32 cn_32 (by first | exact rfl | assumption) (Nat.le_of_ble_eq_true rfl) ?_
  refine sp_second hF hI (by omega) (by omega) (fun h1 G1 c1 n1 F1 I1 e1 v1 => ?_)
  replace E := cE_tr E e1
  with_reducible refine xm_go_blk b_X0_leafPiece_396 k_X0_leafPiece_396 ?_
  refine by_aload_n rfl ?_
  refine by_iconst ci_1 ?_
  refine by_iconst ci_1 ?_
  refine by_inv2 cn_21 lk_0_95 (by rw [xe_cnt]; decide) is_15 np_15 cn_15 (by first | exact rfl | assumption) (Nat.le_of_ble_eq_true rfl) ?_
  refine sp_first F1 I1 (by omega) (by omega) (fun h2 G2 c2 n2 F2 I2 e2 v2 => ?_)
  replace v1 := nG_up v1 e2
  replace E := cE_tr E e2
  with_reducible refine xm_go_blk b_X0_leafPiece_402 k_X0_leafPiece_402 ?_
  refine by_inv2 cn_21 lk_0_98 (by rw [xe_cnt]; decide) is_6 np_6 cn_6 (by first | exact rfl | assumption) (Nat.le_of_ble_eq_true rfl) ?_
  refine sp_choose F2 I2 (by omega) v1 v2 (by omega) (by omega) (by omega) (fun h3 G3 c3 n3 F3 I3 e3 v3 => ?_)
  replace E := cE_tr E e3
  with_reducible refine xm_go_blk b_X0_leafPiece_405 k_X0_leafPiece_405 ?_
  refine by_iret ry_21 (by first | rfl | assumption) ?_
  exact hp _ _ _ _ F3 (cI_mono I3 (by omega) hm) E ⟨_, nG_cg v3 rfl rfl (fun _ _ => rfl) (by decide), by intro c x y hc hx hy; obtain ⟨a, rfl⟩ := li_1 hc; obtain ⟨b, rfl⟩ := li_1 hx; obtain ⟨e, rfl⟩ := li_1 hy; cases a <;> cases b <;> cases e <;> rfl⟩
theorem bl_13 : BdOK sc 13 0 := by
  intro r d c m h G J post hP hr hd hF hI hJ hm hp
  have hr' : r = 0 := by rw [hr]; decide
  have ho : oc 13 0 = 2 := by decide
  rw [ho] at hm hp
  rw [if_neg (by decide), if_pos rfl]
  refine xq_in rfl ?_
  simp only [xq_a0, xq_aI, xq_aJ, xq_aR, Nat.reduceAdd]
  have E : cE h G c h G c := cE_rf
  with_reducible refine xm_go_blk b_X0_leafPiece_0 k_X0_leafPiece_0 ?_
  refine by_iload_n rfl ?_
  refine by_sw ?_
  refine xq_sw 406 (by decide) (by decide) ?_
  with_reducible refine xm_go_blk b_X0_leafPiece_406 k_X0_leafPiece_406 ?_
  refine by_aload_n rfl ?_
  refine by_iconst ci_0 ?_
  refine by_iconst ci_0 ?_
  refine by_inv2 cn_21 lk_0_73 (by rw [xe_cnt]; decide) is_3 np_3 cn_3 (by first | exact rfl | assumption) (Nat.le_of_ble_eq_true rfl) ?_
  refine sp_gbit (by omega) hF hI (by omega) (by omega) (fun h1 G1 c1 n1 F1 I1 e1 v1 => ?_)
  replace E := cE_tr E e1
  with_reducible refine xm_go_blk b_X0_leafPiece_412 k_X0_leafPiece_412 ?_
  refine by_iret ry_21 (by first | rfl | assumption) ?_
  exact hp _ _ _ _ F1 (cI_mono I1 (by omega) hm) E ⟨_, nG_cg v1 rfl rfl (fun _ _ => rfl) (by decide), rfl⟩
theorem bl_14 : BdOK sc 14 0 := by
  intro r d c m h G J post hP hr hd hF hI hJ hm hp
  have hr' : r = 0 := by rw [hr]; decide
  have ho : oc 14 0 = 2 := by decide
  rw [ho] at hm hp
  rw [if_neg (by decide), if_pos rfl]
  refine xq_in rfl ?_
  simp only [xq_a0, xq_aI, xq_aJ, xq_aR, Nat.reduceAdd]
  have E : cE h G c h G c := cE_rf
  with_reducible refine xm_go_blk b_X0_leafPiece_0 k_X0_leafPiece_0 ?_
  refine by_iload_n rfl ?_
  refine by_sw ?_
  refine xq_sw 413 (by decide) (by decide) ?_
  with_reducible refine xm_go_blk b_X0_leafPiece_413 k_X0_leafPiece_413 ?_
  refine by_aload_n rfl ?_
  refine by_iconst ci_1 ?_
  refine by_iconst ci_0 ?_
  refine by_inv2 cn_21 lk_0_73 (by rw [xe_cnt]; decide) is_3 np_3 cn_3 (by first | exact rfl | assumption) (Nat.le_of_ble_eq_true rfl) ?_
  refine sp_gbit (by omega) hF hI (by omega) (by omega) (fun h1 G1 c1 n1 F1 I1 e1 v1 => ?_)
  replace E := cE_tr E e1
  with_reducible refine xm_go_blk b_X0_leafPiece_419 k_X0_leafPiece_419 ?_
  refine by_iret ry_21 (by first | rfl | assumption) ?_
  exact hp _ _ _ _ F1 (cI_mono I1 (by omega) hm) E ⟨_, nG_cg v1 rfl rfl (fun _ _ => rfl) (by decide), rfl⟩
theorem bl_15 : BdOK sc 15 0 := by
  intro r d c m h G J post hP hr hd hF hI hJ hm hp
  have hr' : r = 0 := by rw [hr]; decide
  have ho : oc 15 0 = 10 := by decide
  rw [ho] at hm hp
  rw [if_neg (by decide), if_pos rfl]
  refine xq_in rfl ?_
  simp only [xq_a0, xq_aI, xq_aJ, xq_aR, Nat.reduceAdd]
  have E : cE h G c h G c := cE_rf
  with_reducible refine xm_go_blk b_X0_leafPiece_0 k_X0_leafPiece_0 ?_
  refine by_iload_n rfl ?_
  refine by_sw ?_
  refine xq_sw 441 (by decide) (by decide) ?_
  with_reducible refine xm_go_blk b_X0_leafPiece_441 k_X0_leafPiece_441 ?_
  refine by_aload_n rfl ?_
  refine by_aload_n rfl ?_
  refine by_aload_n rfl ?_
  refine by_iconst ci_1 ?_
  refine by_inv1 cn_21 lk_0_76 (by rw [xe_cnt]; decide) is_18 np_18 cn_18 (by first | exact rfl | assumption) (Nat.le_of_ble_eq_true rfl) ?_
  refine sp_iden hF hI (by omega) (by omega) (fun h1 G1 c1 n1 F1 I1 e1 v1 => ?_)
  replace E := cE_tr E e1
  with_reducible refine xm_go_blk b_X0_leafPiece_448 k_X0_leafPiece_448 ?_
  refine by_aload_n rfl ?_
  refine by_iconst ci_1 ?_
  refine by_inv1 cn_21 lk_0_127 (by rw [xe_cnt]; decide) is_35 np_35 cn_35 (by first | exact rfl | assumption) (Nat.le_of_ble_eq_true rfl) ?_
  refine sp_unit F1 I1 (by omega) (by omega) (fun h2 G2 c2 n2 F2 I2 e2 v2 => ?_)
  replace v1 := nG_up v1 e2
  replace E := cE_tr E e2
  with_reducible refine xm_go_blk b_X0_leafPiece_453 k_X0_leafPiece_453 ?_
  refine by_inv2 cn_21 lk_0_80 (by rw [xe_cnt]; decide) is_25 np_25 cn_25 (by first | exact rfl | assumption) (Nat.le_of_ble_eq_true rfl) ?_
  refine sp_gpair F2 I2 (by omega) v1 v2 (by omega) (by omega) (fun h3 G3 c3 n3 F3 I3 e3 v3 => ?_)
  replace E := cE_tr E e3
  with_reducible refine xm_go_blk b_X0_leafPiece_456 k_X0_leafPiece_456 ?_
  refine by_aload_n rfl ?_
  refine by_aload_n rfl ?_
  refine by_iconst ci_1 ?_
  refine by_iconst ci_0 ?_
  refine by_inv2 cn_21 lk_0_73 (by rw [xe_cnt]; decide) is_3 np_3 cn_3 (by first | exact rfl | assumption) (Nat.le_of_ble_eq_true rfl) ?_
  refine sp_gbit (by omega) F3 I3 (by omega) (by omega) (fun h4 G4 c4 n4 F4 I4 e4 v4 => ?_)
  replace v3 := nG_up v3 e4
  replace E := cE_tr E e4
  with_reducible refine xm_go_blk b_X0_leafPiece_463 k_X0_leafPiece_463 ?_
  refine by_aload_n rfl ?_
  refine by_iconst ci_0 ?_
  refine by_iconst ci_0 ?_
  refine by_inv2 cn_21 lk_0_73 (by rw [xe_cnt]; decide) is_3 np_3 cn_3 (by first | exact rfl | assumption) (Nat.le_of_ble_eq_true rfl) ?_
  refine sp_gbit (by omega) F4 I4 (by omega) (by omega) (fun h5 G5 c5 n5 F5 I5 e5 v5 => ?_)
  replace v3 := nG_up v3 e5
  replace v4 := nG_up v4 e5
  replace E := cE_tr E e5
  with_reducible refine xm_go_blk b_X0_leafPiece_469 k_X0_leafPiece_469 ?_
  refine by_inv2 cn_21 lk_0_98 (by rw [xe_cnt]; decide) is_6 np_6 cn_6 (by first | exact rfl | assumption) (Nat.le_of_ble_eq_true rfl) ?_
  refine sp_choose F5 I5 (by omega) v4 v5 (by omega) (by omega) (by omega) (fun h6 G6 c6 n6 F6 I6 e6 v6 => ?_)
  replace v3 := nG_up v3 e6
  replace E := cE_tr E e6
  with_reducible refine xm_go_blk b_X0_leafPiece_472 k_X0_leafPiece_472 ?_
  refine by_inv2 cn_21 lk_0_86 (by rw [xe_cnt]; decide) is_7 np_7 cn_7 (by first | exact rfl | assumption) (Nat.le_of_ble_eq_true rfl) ?_
  refine sp_gcomp F6 I6 (by omega) v3 v6 (by omega) (fun h7 G7 c7 n7 F7 I7 e7 v7 => ?_)
  replace E := cE_tr E e7
  with_reducible refine xm_go_blk b_X0_leafPiece_475 k_X0_leafPiece_475 ?_
  refine by_iret ry_21 (by first | rfl | assumption) ?_
  exact hp _ _ _ _ F7 (cI_mono I7 (by omega) hm) E ⟨_, nG_cg v7 rfl rfl (fun _ _ => rfl) (by decide), by intro x hx; obtain ⟨a, rfl⟩ := li_1 hx; cases a <;> rfl⟩
theorem bl_16 : BdOK sc 16 0 := by
  intro r d c m h G J post hP hr hd hF hI hJ hm hp
  have hr' : r = 4 := by rw [hr]; decide
  have ho : oc 16 0 = 7 := by decide
  rw [ho] at hm hp
  rw [if_neg (by decide), if_pos rfl]
  refine xq_in rfl ?_
  simp only [xq_a0, xq_aI, xq_aJ, xq_aR, Nat.reduceAdd]
  have E : cE h G c h G c := cE_rf
  with_reducible refine xm_go_blk b_X0_leafPiece_0 k_X0_leafPiece_0 ?_
  refine by_iload_n rfl ?_
  refine by_sw ?_
  refine xq_sw 420 (by decide) (by decide) ?_
  with_reducible refine xm_go_blk b_X0_leafPiece_420 k_X0_leafPiece_420 ?_
  refine by_aload_n rfl ?_
  refine by_inv0 cn_21 lk_0_123 (by rw [xe_cnt]; decide) is_14 np_14 cn_14 (by first | exact rfl | assumption) (Nat.le_of_ble_eq_true rfl) ?_
  refine sp_extended hP (by omega) hJ (by omega) hF hI (by omega) (fun h1 G1 c1 n1 F1 I1 e1 v1 => ?_)
  replace E := cE_tr E e1
  with_reducible refine xm_go_blk b_X0_leafPiece_424 k_X0_leafPiece_424 ?_
  refine by_iret ry_21 (by first | rfl | assumption) ?_
  exact hp _ _ _ _ F1 (cI_mono I1 (by omega) hm) E ⟨_, nG_cg v1 rfl rfl (fun _ _ => rfl) (by decide), by intro x hx; obtain ⟨a, rfl⟩ := li_1 hx; cases a <;> rfl⟩
theorem bl_17 : BdOK sc 17 0 := by
  intro r d c m h G J post hP hr hd hF hI hJ hm hp
  have hr' : r = 4 := by rw [hr]; decide
  have ho : oc 17 0 = 9 := by decide
  rw [ho] at hm hp
  rw [if_neg (by decide), if_pos rfl]
  refine xq_in rfl ?_
  simp only [xq_a0, xq_aI, xq_aJ, xq_aR, Nat.reduceAdd]
  have E : cE h G c h G c := cE_rf
  with_reducible refine xm_go_blk b_X0_leafPiece_0 k_X0_leafPiece_0 ?_
  refine by_iload_n rfl ?_
  refine by_sw ?_
  refine xq_sw 425 (by decide) (by decide) ?_
  with_reducible refine xm_go_blk b_X0_leafPiece_425 k_X0_leafPiece_425 ?_
  refine by_aload_n rfl ?_
  refine by_aload_n rfl ?_
  refine by_bipush cb_6 ?_
  refine by_iconst ci_0 ?_
  refine by_inv2 cn_21 lk_0_83 (by rw [xe_cnt]; decide) is_26 np_26 cn_26 (by first | exact rfl | assumption) (Nat.le_of_ble_eq_true rfl) ?_
  refine sp_pc (a := 0) hP ⟨by omega, by omega, by omega⟩ rfl (by omega) hJ (by omega) hF hI (fun h1 G1 c1 n1 F1 I1 e1 p1 => ?_)
  obtain ⟨f1, v1, s1⟩ := p1
  simp only [pS, pT, pSp, Nat.reducePow] at v1 s1
  replace v1 := nG_cg v1 rfl rfl (fun x hx => s1 x hx) (qle_rf _)
  replace E := cE_tr E e1
  with_reducible refine xm_go_blk b_X0_leafPiece_433 k_X0_leafPiece_433 ?_
  refine by_aload_n rfl ?_
  refine by_inv0 cn_21 lk_0_123 (by rw [xe_cnt]; decide) is_14 np_14 cn_14 (by first | exact rfl | assumption) (Nat.le_of_ble_eq_true rfl) ?_
  refine sp_extended hP (by omega) hJ (by omega) F1 I1 (by omega) (fun h2 G2 c2 n2 F2 I2 e2 v2 => ?_)
  replace v1 := nG_up v1 e2
  replace E := cE_tr E e2
  with_reducible refine xm_go_blk b_X0_leafPiece_437 k_X0_leafPiece_437 ?_
  refine by_inv2 cn_21 lk_0_86 (by rw [xe_cnt]; decide) is_7 np_7 cn_7 (by first | exact rfl | assumption) (Nat.le_of_ble_eq_true rfl) ?_
  refine sp_gcomp F2 I2 (by omega) v1 v2 (by omega) (fun h3 G3 c3 n3 F3 I3 e3 v3 => ?_)
  replace E := cE_tr E e3
  with_reducible refine xm_go_blk b_X0_leafPiece_440 k_X0_leafPiece_440 ?_
  refine by_iret ry_21 (by first | rfl | assumption) ?_
  exact hp _ _ _ _ F3 (cI_mono I3 (by omega) hm) E ⟨_, nG_cg v3 rfl rfl (fun _ _ => rfl) (by decide), by intro x hx; obtain ⟨a, rfl⟩ := li_1 hx; cases a <;> rfl⟩
theorem bl_18 : BdOK sc 18 0 := by
  intro r d c m h G J post hP hr hd hF hI hJ hm hp
  have hr' : r = 0 := by rw [hr]; decide
  have ho : oc 18 0 = 1 := by decide
  rw [ho] at hm hp
  rw [if_neg (by decide), if_pos rfl]
  refine xq_in rfl ?_
  simp only [xq_a0, xq_aI, xq_aJ, xq_aR, Nat.reduceAdd]
  have E : cE h G c h G c := cE_rf
  with_reducible refine xm_go_blk b_X0_leafPiece_0 k_X0_leafPiece_0 ?_
  refine by_iload_n rfl ?_
  refine by_sw ?_
  refine xq_sw 476 (by decide) (by decide) ?_
  with_reducible refine xm_go_blk b_X0_leafPiece_476 k_X0_leafPiece_476 ?_
  refine by_aload_n rfl ?_
  refine by_iconst ci_1 ?_
  refine by_inv1 cn_21 lk_0_76 (by rw [xe_cnt]; decide) is_18 np_18 cn_18 (by first | exact rfl | assumption) (Nat.le_of_ble_eq_true rfl) ?_
  refine sp_iden hF hI (by omega) (by omega) (fun h1 G1 c1 n1 F1 I1 e1 v1 => ?_)
  replace E := cE_tr E e1
  with_reducible refine xm_go_blk b_X0_leafPiece_481 k_X0_leafPiece_481 ?_
  refine by_iret ry_21 (by first | rfl | assumption) ?_
  exact hp _ _ _ _ F1 (cI_mono I1 (by omega) hm) E ⟨_, nG_cg v1 rfl rfl (fun _ _ => rfl) (by decide), by intro x hx; obtain ⟨a, rfl⟩ := li_1 hx; cases a <;> rfl⟩
theorem bl_19 : BdOK sc 19 0 := by
  intro r d c m h G J post hP hr hd hF hI hJ hm hp
  have hr' : r = 0 := by rw [hr]; decide
  have ho : oc 19 0 = 1 := by decide
  rw [ho] at hm hp
  rw [if_neg (by decide), if_pos rfl]
  refine xq_in rfl ?_
  simp only [xq_a0, xq_aI, xq_aJ, xq_aR, Nat.reduceAdd]
  have E : cE h G c h G c := cE_rf
  with_reducible refine xm_go_blk b_X0_leafPiece_0 k_X0_leafPiece_0 ?_
  refine by_iload_n rfl ?_
  refine by_sw ?_
  refine xq_sw 253 (by decide) (by decide) ?_
  with_reducible refine xm_go_blk b_X0_leafPiece_253 k_X0_leafPiece_253 ?_
  refine by_aload_n rfl ?_
  refine by_iconst ci_1 ?_
  refine by_iconst ci_1 ?_
  refine by_inv2 cn_21 lk_0_92 (by rw [xe_cnt]; decide) is_32 np_32 cn_32 (by first | exact rfl | assumption) (Nat.le_of_ble_eq_true rfl) ?_
  refine sp_second hF hI (by omega) (by omega) (fun h1 G1 c1 n1 F1 I1 e1 v1 => ?_)
  replace E := cE_tr E e1
  with_reducible refine xm_go_blk b_X0_leafPiece_259 k_X0_leafPiece_259 ?_
  refine by_iret ry_21 (by first | rfl | assumption) ?_
  exact hp _ _ _ _ F1 (cI_mono I1 (by omega) hm) E ⟨_, nG_cg v1 rfl rfl (fun _ _ => rfl) (by decide), by intro x hx; obtain ⟨a, b, rfl⟩ := li_2 hx; rfl⟩
end CD
