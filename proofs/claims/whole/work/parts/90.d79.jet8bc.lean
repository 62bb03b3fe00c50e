/-! ===== Long.bitCount, in its code: wants the constants 314, 316, 318 of RJ13 in xt_KL (part 67) and the block b_J13_bitCount_95d88_0 ===== -/
def b_J13_bitCount_95d88_0 : List (Nat × Jvm.ClassFile.Instr × Nat) := [(0, .lload_n 0, 1), (1, .lload_n 0, 1), (2, .iconst 1, 1), (3, .lushr, 1), (4, .ldc2_w 314, 3), (7, .land, 1), (8, .lsub, 1), (9, .lstore_n 0, 1), (10, .lload_n 0, 1), (11, .ldc2_w 316, 3), (14, .land, 1), (15, .lload_n 0, 1), (16, .iconst 2, 1), (17, .lushr, 1), (18, .ldc2_w 316, 3), (21, .land, 1), (22, .ladd, 1), (23, .lstore_n 0, 1), (24, .lload_n 0, 1), (25, .lload_n 0, 1), (26, .iconst 4, 1), (27, .lushr, 1), (28, .ladd, 1), (29, .ldc2_w 318, 3), (32, .land, 1), (33, .lstore_n 0, 1), (34, .lload_n 0, 1), (35, .lload_n 0, 1), (36, .bipush 8, 2), (38, .lushr, 1), (39, .ladd, 1), (40, .lstore_n 0, 1), (41, .lload_n 0, 1), (42, .lload_n 0, 1), (43, .bipush 16, 2), (45, .lushr, 1), (46, .ladd, 1), (47, .lstore_n 0, 1), (48, .lload_n 0, 1), (49, .lload_n 0, 1), (50, .bipush 32, 2), (52, .lushr, 1), (53, .ladd, 1), (54, .lstore_n 0, 1), (55, .lload_n 0, 1), (56, .l2i, 1), (57, .bipush 127, 2), (59, .iand, 1), (60, .ireturn, 1)]
set_option maxRecDepth 20000 in
theorem k_J13_bitCount_95d88_0 {sc : xm_Sc} : xm_bok (xe_cy (XE sc) 329) b_J13_bitCount_95d88_0 := by show xm_bok cJ13_bitCount_95d88 _; unfold xm_bok; decide +kernel
set_option maxRecDepth 20000 in
theorem cn_329 {sc : xm_Sc} : xe_cn (XE sc) 329 = 13 := rfl
set_option maxRecDepth 20000 in
theorem ml_329 {sc : xm_Sc} : xe_ml (XE sc) 329 = 2 := rfl
set_option maxRecDepth 20000 in
theorem ry_329 {sc : xm_Sc} : xe_ry (XE sc) 329 = (some .int) := rfl
set_option maxRecDepth 20000 in
theorem kl_13_314 {sc : xm_Sc} : xe_kL (XE sc) 13 314 = some 6148914691236517205 := rfl
set_option maxRecDepth 20000 in
theorem kl_13_316 {sc : xm_Sc} : xe_kL (XE sc) 13 316 = some 3689348814741910323 := rfl
set_option maxRecDepth 20000 in
theorem kl_13_318 {sc : xm_Sc} : xe_kL (XE sc) 13 318 = some 1085102592571150095 := rfl
theorem m55 : (6148914691236517205 : Nat) = bcM 85 8 := by decide
theorem m33 : (3689348814741910323 : Nat) = bcM 51 8 := by decide
theorem m0f : (1085102592571150095 : Nat) = bcM 15 8 := by decide
section J8
variable {sc : xm_Sc} {d w c x y z v : Nat} {h : xm_H} {post : xm_Po}
theorem sp_bitCount {a : Nat} (ha : a < 2 ^ 64) (hp : post (some (.int (nI (jPop a 64)))) h) : xm_T (XE sc) (d + 1) 329 [.long (lN a)] h post := by
  obtain ⟨y, e1, e2, e3⟩ := bc_sum ha
  have hs : ∀ (n k : Nat), n < 2 ^ 64 → k < 64 → ((lN n).toUInt64 >>> ((nI k).toInt64.toUInt64 &&& Int64.toUInt64 63)).toInt64 = lN (n / 2 ^ k) := fun n k h1 h2 => wb_shr h1 h2
  have l1 : a / 2 &&& bcM 85 8 ≤ a / 2 := Nat.and_le_left
  have f1 : lN a - lN (a / 2 &&& bcM 85 8) = lN (bcP1 (bcM 85 8) a) := by
    unfold bcP1
    rw [lN_sb (by omega), wb_mod (a + 2 ^ 64 - (a / 2 &&& bcM 85 8)), show a + 2 ^ 64 - (a / 2 &&& bcM 85 8) = a - (a / 2 &&& bcM 85 8) + 2 ^ 64 by omega, Nat.add_mod_right, ← wb_mod]
  have b1 : bcP1 (bcM 85 8) a < 2 ^ 64 := Nat.lt_of_le_of_lt (Nat.sub_le _ _) ha
  generalize hx1 : bcP1 (bcM 85 8) a = x1 at *
  have l2 : x1 &&& bcM 51 8 ≤ bcM 51 8 := Nat.and_le_right
  have l3 : x1 / 4 &&& bcM 51 8 ≤ bcM 51 8 := Nat.and_le_right
  have hm : bcM 51 8 = 3689348814741910323 := m33.symm
  have b2 : bcP2 (bcM 51 8) x1 < 2 ^ 63 := by unfold bcP2; omega
  generalize hx2 : bcP2 (bcM 51 8) x1 = x2 at *
  have b3 : x2 + x2 / 16 < 2 ^ 64 := by omega
  have b4 : y + y / 256 + (y + y / 256) / 65536 + (y + y / 256 + (y + y / 256) / 65536) / 4294967296 < 2 ^ 62 := by omega
  have g1 : ((lN a).toUInt64 >>> ((nI 1).toInt64.toUInt64 &&& Int64.toUInt64 63)).toInt64 = lN (a / 2) := hs a 1 ha (by decide)
  have g2 : lN (a / 2) &&& lN 6148914691236517205 = lN (a / 2 &&& bcM 85 8) := by rw [m55]; exact wb_and (by omega) (by decide)
  have g3 : lN x1 &&& lN 3689348814741910323 = lN (x1 &&& bcM 51 8) := by rw [m33]; exact wb_and b1 (by decide)
  have g4 : ((lN x1).toUInt64 >>> ((nI 2).toInt64.toUInt64 &&& Int64.toUInt64 63)).toInt64 = lN (x1 / 4) := hs x1 2 b1 (by decide)
  have g5 : lN (x1 / 4) &&& lN 3689348814741910323 = lN (x1 / 4 &&& bcM 51 8) := by rw [m33]; exact wb_and (by omega) (by decide)
  have g6 : lN (x1 &&& bcM 51 8) + lN (x1 / 4 &&& bcM 51 8) = lN x2 := by rw [lN_pl, ← hx2]; rfl
  have g7 : ((lN x2).toUInt64 >>> ((nI 4).toInt64.toUInt64 &&& Int64.toUInt64 63)).toInt64 = lN (x2 / 16) := hs x2 4 (by omega) (by decide)
  have g8 : lN (x2 + x2 / 16) &&& lN 1085102592571150095 = lN y := by rw [m0f, wb_and b3 (by decide), ← e1]; rfl
  have g9 : ((lN y).toUInt64 >>> ((nI 8).toInt64.toUInt64 &&& Int64.toUInt64 63)).toInt64 = lN (y / 256) := hs y 8 (by omega) (by decide)
  have g10 : ((lN (y + y / 256)).toUInt64 >>> ((nI 16).toInt64.toUInt64 &&& Int64.toUInt64 63)).toInt64 = lN ((y + y / 256) / 65536) := hs _ 16 (by omega) (by decide)
  have g11 : ((lN (y + y / 256 + (y + y / 256) / 65536)).toUInt64 >>> ((nI 32).toInt64.toUInt64 &&& Int64.toUInt64 63)).toInt64 = lN ((y + y / 256 + (y + y / 256) / 65536) / 4294967296) := hs _ 32 (by omega) (by decide)
  have gp : ∀ p q : Nat, lN p + lN q = lN (p + q) := lN_pl
  have g12 : nI (y + y / 256 + (y + y / 256) / 65536 + (y + y / 256 + (y + y / 256) / 65536) / 4294967296) &&& nI 127 = nI (jPop a 64) := by
    rw [nx_and, ← e3]
    congr 1
    exact Nat.and_two_pow_sub_one_eq_mod _ 7
  have p1 := gp x2 (x2 / 16)
  have p2 := gp y (y / 256)
  have p3 := gp (y + y / 256) ((y + y / 256) / 65536)
  have p4 := gp (y + y / 256 + (y + y / 256) / 65536) ((y + y / 256 + (y + y / 256) / 65536) / 4294967296)
  refine xq_in rfl ?_
  simp only [xq_a0, xq_aI, xq_aJ, xq_aR, Nat.reduceAdd]
  with_reducible refine xm_go_blk b_J13_bitCount_95d88_0 k_J13_bitCount_95d88_0 ?_
  refine by_lload_n rfl ?_
  refine by_lload_n rfl ?_
  refine by_iconst ci_1 ?_
  refine by_lushr ?_
  refine by_ldc2 (x := lN 6148914691236517205) cn_329 kl_13_314 (by decide) ?_
  refine by_land ?_
  refine by_lsub ?_
  refine by_lstore_n (by rw [ml_329]; decide) ?_
  refine by_lload_n rfl ?_
  refine by_ldc2 (x := lN 3689348814741910323) cn_329 kl_13_316 (by decide) ?_
  refine by_land ?_
  refine by_lload_n rfl ?_
  refine by_iconst ci_2 ?_
  refine by_lushr ?_
  refine by_ldc2 (x := lN 3689348814741910323) cn_329 kl_13_316 (by decide) ?_
  refine by_land ?_
  refine by_ladd ?_
  refine by_lstore_n (by rw [ml_329]; decide) ?_
  refine by_lload_n rfl ?_
  refine by_lload_n rfl ?_
  refine by_iconst ci_4 ?_
  refine by_lushr ?_
  refine by_ladd ?_
  refine by_ldc2 (x := lN 1085102592571150095) cn_329 kl_13_318 (by decide) ?_
  refine by_land ?_
  refine by_lstore_n (by rw [ml_329]; decide) ?_
  refine by_lload_n rfl ?_
  refine by_lload_n rfl ?_
  refine by_bipush cb_8 ?_
  refine by_lushr ?_
  refine by_ladd ?_
  refine by_lstore_n (by rw [ml_329]; decide) ?_
  refine by_lload_n rfl ?_
  refine by_lload_n rfl ?_
  refine by_bipush cb_16 ?_
  refine by_lushr ?_
  refine by_ladd ?_
  refine by_lstore_n (by rw [ml_329]; decide) ?_
  refine by_lload_n rfl ?_
  refine by_lload_n rfl ?_
  refine by_bipush cb_32 ?_
  refine by_lushr ?_
  refine by_ladd ?_
  refine by_lstore_n (by rw [ml_329]; decide) ?_
  refine by_lload_n rfl ?_
  refine by_l2i ?_
  refine by_bipush cb_127 ?_
  refine by_iand ?_
  simp (disch := first | exact Nat.ne_of_beq_eq_false rfl | exact rfl | omega) only [nI_add, xa_sub, xa_mul, pk_div, nm_mod, xa_shr, xa_and7, xa_and1, xa_and255, xa_by_and, nI_m1, Nat.add_sub_cancel, Nat.reducePow, Nat.zero_add, Nat.add_zero, Nat.reduceAdd, Nat.reduceMul, Nat.reduceSub, xf_same, xq_ff, xq_fo, xf_1, xf_2, xs_1, xs_2, xs_same, xq_so, xj_1, xj_2, xj_same, xq_jo, xq_sa1, xq_same, xq_other, upd_s, oI_n, oI_s, g1, g2, f1, g3, g4, g5, g6, g7, p1, g8, g9, p2, g10, p3, g11, p4, l2i_n, g12]
  refine by_iret ry_329 (by first | rfl | assumption) ?_
  exact hp
end J8
theorem bc_ok {sc : xm_Sc} : bcOK sc := fun _ _ _ _ ha hp => sp_bitCount ha hp
