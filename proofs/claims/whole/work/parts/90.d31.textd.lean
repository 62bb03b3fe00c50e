/-! ===== rows of bits as bytes: putBit, putBits, tellsBits ===== -/
def pk8 (g : Nat → Nat) (k : Nat) : Nat := 128 * g (8 * k) + 64 * g (8 * k + 1) + 32 * g (8 * k + 2) + 16 * g (8 * k + 3) + 8 * g (8 * k + 4) + 4 * g (8 * k + 5) + 2 * g (8 * k + 6) + g (8 * k + 7)
def bg (bl : List Nat) : Nat → Nat := fun i => bl.getD i 0
def bOK (bl : List Nat) : Prop := ∀ x ∈ bl, x < 2
theorem bg_lt {bl : List Nat} (h : bOK bl) (i : Nat) : bg bl i < 2 := by
  unfold bg
  rw [List.getD_eq_getElem?_getD]
  by_cases e : i < bl.length
  · rw [List.getElem?_eq_getElem e]; exact h _ (List.getElem_mem e)
  · rw [List.getElem?_eq_none (by omega)]; exact Nat.zero_lt_succ _
theorem bg_out {bl : List Nat} {i : Nat} (h : bl.length ≤ i) : bg bl i = 0 := by
  unfold bg
  rw [List.getD_eq_getElem?_getD, List.getElem?_eq_none h]; rfl
theorem bg_app {bl : List Nat} {b i : Nat} : bg (bl ++ [b]) i = if i = bl.length then b else bg bl i := by
  unfold bg
  by_cases e : i < bl.length
  · rw [gN_l e, if_neg (by omega)]
  · by_cases e2 : i = bl.length
    · subst e2; rw [gN_e, if_pos rfl]
    · rw [if_neg e2, List.getD_eq_getElem?_getD, List.getD_eq_getElem?_getD, List.getElem?_eq_none (by simp; omega), List.getElem?_eq_none (by omega)]
theorem bOK_app {a b : List Nat} (ha : bOK a) (hb : bOK b) : bOK (a ++ b) := fun x hx => (List.mem_append.mp hx).elim (ha x) (hb x)
def pkL (bl : List Nat) : List Nat := (List.range ((bl.length + 7) / 8)).map (pk8 (bg bl))
theorem pkL_len (bl : List Nat) : (pkL bl).length = (bl.length + 7) / 8 := by simp [pkL]
theorem pkL_get {bl : List Nat} {k : Nat} (h : k < (bl.length + 7) / 8) : (pkL bl).getD k 0 = pk8 (bg bl) k := by
  simp [pkL, List.getD_eq_getElem?_getD, List.getElem?_map, List.getElem?_range h]
/-- the pen of bits -/
def penB (h : xm_H) (bl : List Nat) : Prop := bOK bl ∧ bl.length ≤ 65536 ∧ h.2.2 5 1 = .int (nI ((bl.length + 7) / 8)) ∧ h.2.2 5 2 = .int (nI 0) ∧ h.2.2 5 3 = .int (nI (bl.length % 8)) ∧ ∀ k, k < (bl.length + 7) / 8 → xa_by (h.1 6 k) = pk8 (bg bl) k ∧ fits .byte (.int (h.1 6 k)) = true
theorem penB_fr {S : List Nat} {T : List (Nat × Nat)} {h h' : xm_H} {bl : List Nat} (hl : penB h bl) (hf : Fr S T h h') (h6 : 6 ∉ S) (h1 : (5, 1) ∉ T) (h2 : (5, 2) ∉ T) (h3 : (5, 3) ∉ T) : penB h' bl :=
  ⟨hl.1, hl.2.1, by rw [hf.2.2 _ _ h1]; exact hl.2.2.1, by rw [hf.2.2 _ _ h2]; exact hl.2.2.2.1, by rw [hf.2.2 _ _ h3]; exact hl.2.2.2.2.1, fun k hk => by rw [hf.1 _ h6]; exact hl.2.2.2.2.2 k hk⟩
theorem penB_pen {h : xm_H} {bl : List Nat} (hl : penB h bl) : penIs h (pkL bl) := by
  have e : (bl.length + 7) / 8 ≤ 8192 := by have := hl.2.1; omega
  refine ⟨?_, ?_, fun i hi hi2 => ?_⟩
  · rw [pkL_len, Nat.min_eq_left e]; exact hl.2.2.1
  · rw [pkL_len, if_pos e]; exact hl.2.2.2.1
  · rw [pkL_len] at hi
    rw [pkL_get hi]; exact hl.2.2.2.2.2 i hi
theorem xa_by_nar (x : Int32) : xa_by (vp_nar .byte x.toInt8.toInt32) = xa_by x := by
  have : x = nI x.toBitVec.toNat := by
    apply Int32.toBitVec_inj.mp
    simp [nI]
  have h2 := xa_by_put x.toBitVec.toNat
  rw [← this] at h2
  exact h2
theorem xa_by_or (x y : Int32) : xa_by (x ||| y) = xa_by x ||| xa_by y := by
  unfold xa_by
  rw [Int32.toBitVec_or, BitVec.toNat_or]
  have : (256 : Nat) = 2 ^ 8 := rfl
  rw [this, Nat.or_mod_two_pow]
theorem xa_by_sh : ∀ m, m < 8 → xa_by ((nI 1 <<< (nI (7 - m % 8) &&& 31)).toInt8.toInt32) = 2 ^ (7 - m) := by decide +kernel
theorem or_add : ∀ m, m < 8 → ∀ o, o < 256 → o % 2 ^ (8 - m) = 0 → o ||| 2 ^ (7 - m) = o + 2 ^ (7 - m) := by decide +kernel
/-- the last byte, while it is being filled -/
theorem pk8_fill {bl : List Nat} (hb : bOK bl) {m k : Nat} (hm : bl.length = 8 * k + m) (hm8 : m < 8) : pk8 (bg bl) k % 2 ^ (8 - m) = 0 ∧ pk8 (bg bl) k < 256 ∧ ∀ b, pk8 (bg (bl ++ [b])) k = pk8 (bg bl) k + b * 2 ^ (7 - m) := by
  have g := bg_lt hb
  have z : ∀ j, m ≤ j → bg bl (8 * k + j) = 0 := fun j hj => bg_out (by omega)
  have g0 := g (8 * k); have g1 := g (8 * k + 1); have g2 := g (8 * k + 2); have g3 := g (8 * k + 3)
  have g4 := g (8 * k + 4); have g5 := g (8 * k + 5); have g6 := g (8 * k + 6); have g7 := g (8 * k + 7)
  have z0 := z 0; have z1 := z 1; have z2 := z 2; have z3 := z 3; have z4 := z 4; have z5 := z 5; have z6 := z 6; have z7 := z 7
  simp only [Nat.add_zero] at z0
  unfold pk8
  refine ⟨?_, by omega, fun b => ?_⟩
  · rcases (by omega : m = 0 ∨ m = 1 ∨ m = 2 ∨ m = 3 ∨ m = 4 ∨ m = 5 ∨ m = 6 ∨ m = 7) with rfl | rfl | rfl | rfl | rfl | rfl | rfl | rfl <;> simp only [Nat.reduceSub, Nat.reducePow] <;> omega
  · simp only [bg_app, hm]
    rcases (by omega : m = 0 ∨ m = 1 ∨ m = 2 ∨ m = 3 ∨ m = 4 ∨ m = 5 ∨ m = 6 ∨ m = 7) with rfl | rfl | rfl | rfl | rfl | rfl | rfl | rfl <;> simp <;> omega
theorem pk8_keep {bl : List Nat} {m k k' : Nat} (b : Nat) (hm : bl.length = 8 * k + m) (hm8 : m < 8) (hk : k' < k) : pk8 (bg (bl ++ [b])) k' = pk8 (bg bl) k' := by
  unfold pk8
  simp only [bg_app]
  rw [if_neg (by omega), if_neg (by omega), if_neg (by omega), if_neg (by omega), if_neg (by omega), if_neg (by omega), if_neg (by omega), if_neg (by omega)]
section PB
variable {sc : xm_Sc} {d : Nat} {bl : List Nat} {h : xm_H} {post : xm_Po}
/-- what stands behind the new byte -/
theorem pb_15 {x : Int32} {m k : Nat} (hF : XF h) (hb : bOK bl) (hm : bl.length = 8 * k + m) (hm8 : m < 8) (hk : k < 8192) (h1 : h.2.2 5 1 = .int (nI (k + 1))) (h2 : h.2.2 5 2 = .int (nI 0)) (h3 : h.2.2 5 3 = .int (nI m)) (hv : ∀ k', k' < k + 1 → xa_by (h.1 6 k') = pk8 (bg bl) k' ∧ fits .byte (.int (h.1 6 k')) = true)
    (hp : ∀ h', Fr [6] [(5, 3)] h h' → penB h' (bl ++ [if x = 0 then 0 else 1]) → post none h') : xm_go (XE sc) (xm_T (XE sc) (d + 1)) 134 post 15 [(0, .ref 5), (1, .int x)] [] h := by
  obtain ⟨q1, q2, q3⟩ := pk8_fill hb hm hm8
  have hlen : (bl ++ [if x = 0 then 0 else 1]).length = bl.length + 1 := by simp
  have hfin : ∀ h2, Fr [6] [] h h2 → (∀ k', k' < k + 1 → xa_by (h2.1 6 k') = pk8 (bg (bl ++ [if x = 0 then 0 else 1])) k' ∧ fits .byte (.int (h2.1 6 k')) = true) → post none (xm_sf h2 5 3 (.int (nI ((m + 1) % 8)))) := by
    intro h2' f2 hv2
    refine hp _ (Fr_sf (Fr_mo f2 (by simp) (by simp)) (by simp)) ⟨bOK_app hb (fun y hy => by simp at hy; subst hy; split <;> decide), by rw [hlen]; omega, ?_, ?_, ?_, ?_⟩
    · have : (xm_sf h2' 5 3 (.int (nI ((m + 1) % 8)))).2.2 5 1 = h2'.2.2 5 1 := by simp [xm_sf, updV]
      rw [this, f2.2.2 _ _ (by simp), h1, hlen, show (bl.length + 1 + 7) / 8 = k + 1 by omega]
    · have : (xm_sf h2' 5 3 (.int (nI ((m + 1) % 8)))).2.2 5 2 = h2'.2.2 5 2 := by simp [xm_sf, updV]
      rw [this, f2.2.2 _ _ (by simp), h2]
    · rw [hlen, show (bl.length + 1) % 8 = (m + 1) % 8 by omega]; simp only [xf_same]
    · rw [hlen, show (bl.length + 1 + 7) / 8 = k + 1 by omega]; exact hv2
  by_cases e : x = 0
  · subst e
    with_reducible refine xm_go_blk b_X8_putBit_15 k_X8_putBit_15 ?_
    refine by_aload_n rfl ?_
    refine by_getf cn_134 fl_8_22 (by first | exact rfl | assumption | exact ps_12 hpp) (by decide) ?_
    simp (disch := first | exact Nat.ne_of_beq_eq_false rfl | exact rfl | omega) only [nI_add, xa_sub, xa_mul, pk_div, nm_mod, xa_shr, xa_and7, xa_and1, xa_and255, xa_by_and, nI_m1, Nat.add_sub_cancel, Nat.reducePow, Nat.zero_add, Nat.add_zero, Nat.reduceAdd, Nat.reduceMul, Nat.reduceSub, xf_same, xq_ff, xq_fo, xf_1, xf_2, xs_1, xs_2, xs_same, xq_so, xj_1, xj_2, xj_same, xq_jo, xq_sa1, xq_same, xq_other, upd_s, oI_n, oI_s, h2, h3]
    refine by_if_ne 54 rfl ?_
    simp (disch := first | exact Nat.ne_of_beq_eq_false rfl | exact rfl | omega) only [nI_add, xa_sub, xa_mul, pk_div, nm_mod, xa_shr, xa_and7, xa_and1, xa_and255, xa_by_and, nI_m1, Nat.add_sub_cancel, Nat.reducePow, Nat.zero_add, Nat.add_zero, Nat.reduceAdd, Nat.reduceMul, Nat.reduceSub, xf_same, xq_ff, xq_fo, xf_1, xf_2, xs_1, xs_2, xs_same, xq_so, xj_1, xj_2, xj_same, xq_jo, xq_sa1, xq_same, xq_other, upd_s, oI_n, oI_s, xv_0, xv_1, xv_2, xv_3, xm_p1, xm_p2, xq_fp, xq_fn, List.filter_nil, Nat.reduceBEq, Bool.not_true, Bool.not_false, Bool.and_true, Bool.and_false, Bool.false_and, Bool.true_and, if_true, if_false, Bool.false_eq_true, reduceIte, xc_i, xc_j, xc_r, xc_n, List.nil_append, List.cons_append, Option.toList_some, Option.toList_none, nI_ltJ, nI_leJ, nI_eqJ, nI_ltz, nI_gez, nI_gtz, nI_lez, nI_eqz, m1_ltz, m1_gez, true_imp_iff, false_imp_iff, true_and, and_true, ne_eq, not_false_eq_true, not_true_eq_false, Nat.reduceEqDiff, Nat.reduceLT, Nat.reduceLeDiff, h2, h3]
    with_reducible refine xm_go_blk b_X8_putBit_22 k_X8_putBit_22 ?_
    refine by_iload_n rfl ?_
    refine by_if_eq 54 rfl ?_
    simp (disch := first | exact Nat.ne_of_beq_eq_false rfl | exact rfl | omega) only [nI_add, xa_sub, xa_mul, pk_div, nm_mod, xa_shr, xa_and7, xa_and1, xa_and255, xa_by_and, nI_m1, Nat.add_sub_cancel, Nat.reducePow, Nat.zero_add, Nat.add_zero, Nat.reduceAdd, Nat.reduceMul, Nat.reduceSub, xf_same, xq_ff, xq_fo, xf_1, xf_2, xs_1, xs_2, xs_same, xq_so, xj_1, xj_2, xj_same, xq_jo, xq_sa1, xq_same, xq_other, upd_s, oI_n, oI_s, xv_0, xv_1, xv_2, xv_3, xm_p1, xm_p2, xq_fp, xq_fn, List.filter_nil, Nat.reduceBEq, Bool.not_true, Bool.not_false, Bool.and_true, Bool.and_false, Bool.false_and, Bool.true_and, if_true, if_false, Bool.false_eq_true, reduceIte, xc_i, xc_j, xc_r, xc_n, List.nil_append, List.cons_append, Option.toList_some, Option.toList_none, nI_ltJ, nI_leJ, nI_eqJ, nI_ltz, nI_gez, nI_gtz, nI_lez, nI_eqz, m1_ltz, m1_gez, true_imp_iff, false_imp_iff, true_and, and_true, ne_eq, not_false_eq_true, not_true_eq_false, Nat.reduceEqDiff, Nat.reduceLT, Nat.reduceLeDiff, h2, h3]
    with_reducible refine xm_go_blk b_X8_putBit_54 k_X8_putBit_54 ?_
    refine by_aload_n rfl ?_
    refine by_aload_n rfl ?_
    refine by_getf cn_134 fl_8_19 (by first | exact rfl | assumption | exact ps_12 hpp) (by decide) ?_
    refine by_iconst ci_1 ?_
    simp (disch := first | exact Nat.ne_of_beq_eq_false rfl | exact rfl | omega) only [nI_add, xa_sub, xa_mul, pk_div, nm_mod, xa_shr, xa_and7, xa_and1, xa_and255, xa_by_and, nI_m1, Nat.add_sub_cancel, Nat.reducePow, Nat.zero_add, Nat.add_zero, Nat.reduceAdd, Nat.reduceMul, Nat.reduceSub, xf_same, xq_ff, xq_fo, xf_1, xf_2, xs_1, xs_2, xs_same, xq_so, xj_1, xj_2, xj_same, xq_jo, xq_sa1, xq_same, xq_other, upd_s, oI_n, oI_s, h2, h3]
    refine by_iadd ?_
    refine by_bipush cb_7 ?_
    refine by_iand ?_
    refine by_putf cn_134 fl_8_19 (by first | exact rfl | assumption | exact ps_12 hpp) (by decide) nf_8_3 ft_8_3 (by first | rfl | assumption) (by first | rfl | assumption) ?_
    refine by_ret ry_134 ?_
    try simp (disch := first | exact Nat.ne_of_beq_eq_false rfl | exact rfl | omega) only [nI_add, xa_sub, xa_mul, pk_div, nm_mod, xa_shr, xa_and7, xa_and1, xa_and255, xa_by_and, nI_m1, Nat.add_sub_cancel, Nat.reducePow, Nat.zero_add, Nat.add_zero, Nat.reduceAdd, Nat.reduceMul, Nat.reduceSub, xf_same, xq_ff, xq_fo, xf_1, xf_2, xs_1, xs_2, xs_same, xq_so, xj_1, xj_2, xj_same, xq_jo, xq_sa1, xq_same, xq_other, upd_s, oI_n, oI_s, h2, h3]
    refine hfin h Fr_rf (fun k' hk' => ?_)
    rw [if_pos rfl]
    by_cases z : k' = k
    · subst z
      rw [q3 0, Nat.zero_mul, Nat.add_zero]; exact hv k' hk'
    · rw [pk8_keep 0 hm hm8 (by omega)]; exact hv k' hk'
  · have e' : (x = 0) = False := eq_false e
    with_reducible refine xm_go_blk b_X8_putBit_15 k_X8_putBit_15 ?_
    refine by_aload_n rfl ?_
    refine by_getf cn_134 fl_8_22 (by first | exact rfl | assumption | exact ps_12 hpp) (by decide) ?_
    simp (disch := first | exact Nat.ne_of_beq_eq_false rfl | exact rfl | omega) only [nI_add, xa_sub, xa_mul, pk_div, nm_mod, xa_shr, xa_and7, xa_and1, xa_and255, xa_by_and, nI_m1, Nat.add_sub_cancel, Nat.reducePow, Nat.zero_add, Nat.add_zero, Nat.reduceAdd, Nat.reduceMul, Nat.reduceSub, xf_same, xq_ff, xq_fo, xf_1, xf_2, xs_1, xs_2, xs_same, xq_so, xj_1, xj_2, xj_same, xq_jo, xq_sa1, xq_same, xq_other, upd_s, oI_n, oI_s, h2, e']
    refine by_if_ne 54 rfl ?_
    simp (disch := first | exact Nat.ne_of_beq_eq_false rfl | exact rfl | omega) only [nI_add, xa_sub, xa_mul, pk_div, nm_mod, xa_shr, xa_and7, xa_and1, xa_and255, xa_by_and, nI_m1, Nat.add_sub_cancel, Nat.reducePow, Nat.zero_add, Nat.add_zero, Nat.reduceAdd, Nat.reduceMul, Nat.reduceSub, xf_same, xq_ff, xq_fo, xf_1, xf_2, xs_1, xs_2, xs_same, xq_so, xj_1, xj_2, xj_same, xq_jo, xq_sa1, xq_same, xq_other, upd_s, oI_n, oI_s, xv_0, xv_1, xv_2, xv_3, xm_p1, xm_p2, xq_fp, xq_fn, List.filter_nil, Nat.reduceBEq, Bool.not_true, Bool.not_false, Bool.and_true, Bool.and_false, Bool.false_and, Bool.true_and, if_true, if_false, Bool.false_eq_true, reduceIte, xc_i, xc_j, xc_r, xc_n, List.nil_append, List.cons_append, Option.toList_some, Option.toList_none, nI_ltJ, nI_leJ, nI_eqJ, nI_ltz, nI_gez, nI_gtz, nI_lez, nI_eqz, m1_ltz, m1_gez, true_imp_iff, false_imp_iff, true_and, and_true, ne_eq, not_false_eq_true, not_true_eq_false, Nat.reduceEqDiff, Nat.reduceLT, Nat.reduceLeDiff, h2, e']
    with_reducible refine xm_go_blk b_X8_putBit_22 k_X8_putBit_22 ?_
    refine by_iload_n rfl ?_
    refine by_if_eq 54 rfl ?_
    simp (disch := first | exact Nat.ne_of_beq_eq_false rfl | exact rfl | omega) only [nI_add, xa_sub, xa_mul, pk_div, nm_mod, xa_shr, xa_and7, xa_and1, xa_and255, xa_by_and, nI_m1, Nat.add_sub_cancel, Nat.reducePow, Nat.zero_add, Nat.add_zero, Nat.reduceAdd, Nat.reduceMul, Nat.reduceSub, xf_same, xq_ff, xq_fo, xf_1, xf_2, xs_1, xs_2, xs_same, xq_so, xj_1, xj_2, xj_same, xq_jo, xq_sa1, xq_same, xq_other, upd_s, oI_n, oI_s, xv_0, xv_1, xv_2, xv_3, xm_p1, xm_p2, xq_fp, xq_fn, List.filter_nil, Nat.reduceBEq, Bool.not_true, Bool.not_false, Bool.and_true, Bool.and_false, Bool.false_and, Bool.true_and, if_true, if_false, Bool.false_eq_true, reduceIte, xc_i, xc_j, xc_r, xc_n, List.nil_append, List.cons_append, Option.toList_some, Option.toList_none, nI_ltJ, nI_leJ, nI_eqJ, nI_ltz, nI_gez, nI_gtz, nI_lez, nI_eqz, m1_ltz, m1_gez, true_imp_iff, false_imp_iff, true_and, and_true, ne_eq, not_false_eq_true, not_true_eq_false, Nat.reduceEqDiff, Nat.reduceLT, Nat.reduceLeDiff, h2, e']
    with_reducible refine xm_go_blk b_X8_putBit_26 k_X8_putBit_26 ?_
    refine by_aload_n rfl ?_
    refine by_getf cn_134 fl_8_9 (by first | exact rfl | assumption | exact ps_12 hpp) (by decide) ?_
    refine by_aload_n rfl ?_
    refine by_getf cn_134 fl_8_15 (by first | exact rfl | assumption | exact ps_12 hpp) (by decide) ?_
    refine by_iconst ci_1 ?_
    simp (disch := first | exact Nat.ne_of_beq_eq_false rfl | exact rfl | omega) only [nI_add, xa_sub, xa_mul, pk_div, nm_mod, xa_shr, xa_and7, xa_and1, xa_and255, xa_by_and, nI_m1, Nat.add_sub_cancel, Nat.reducePow, Nat.zero_add, Nat.add_zero, Nat.reduceAdd, Nat.reduceMul, Nat.reduceSub, xf_same, xq_ff, xq_fo, xf_1, xf_2, xs_1, xs_2, xs_same, xq_so, xj_1, xj_2, xj_same, xq_jo, xq_sa1, xq_same, xq_other, upd_s, oI_n, oI_s, xf_5_0 hF, h1, h3]
    refine by_isub ?_
    refine by_dup2 rfl rfl ?_
    simp (disch := first | exact Nat.ne_of_beq_eq_false rfl | exact rfl | omega) only [nI_add, xa_sub, xa_mul, pk_div, nm_mod, xa_shr, xa_and7, xa_and1, xa_and255, xa_by_and, nI_m1, Nat.add_sub_cancel, Nat.reducePow, Nat.zero_add, Nat.add_zero, Nat.reduceAdd, Nat.reduceMul, Nat.reduceSub, xf_same, xq_ff, xq_fo, xf_1, xf_2, xs_1, xs_2, xs_same, xq_so, xj_1, xj_2, xj_same, xq_jo, xq_sa1, xq_same, xq_other, upd_s, oI_n, oI_s, xf_5_0 hF, h1, h3]
    first | refine by_bald (Or.inl rfl) (by first | exact rfl | assumption | exact ps_13 hpp) ⟨by omega, by omega⟩ ?_ | refine by_bald (Or.inr rfl) (by first | exact rfl | assumption | exact ps_20 hpp) ⟨by omega, by omega⟩ ?_
    refine by_iconst ci_1 ?_
    refine by_bipush cb_7 ?_
    refine by_aload_n rfl ?_
    refine by_getf cn_134 fl_8_19 (by first | exact rfl | assumption | exact ps_12 hpp) (by decide) ?_
    refine by_bipush cb_7 ?_
    simp (disch := first | exact Nat.ne_of_beq_eq_false rfl | exact rfl | omega) only [nI_add, xa_sub, xa_mul, pk_div, nm_mod, xa_shr, xa_and7, xa_and1, xa_and255, xa_by_and, nI_m1, Nat.add_sub_cancel, Nat.reducePow, Nat.zero_add, Nat.add_zero, Nat.reduceAdd, Nat.reduceMul, Nat.reduceSub, xf_same, xq_ff, xq_fo, xf_1, xf_2, xs_1, xs_2, xs_same, xq_so, xj_1, xj_2, xj_same, xq_jo, xq_sa1, xq_same, xq_other, upd_s, oI_n, oI_s, xf_5_0 hF, h1, h3]
    refine by_iand ?_
    refine by_isub ?_
    refine by_ishl ?_
    refine by_i2b ?_
    refine by_ior ?_
    refine by_i2b ?_
    first | refine by_bast (by first | exact rfl | assumption | exact ps_13 hpp) ⟨by omega, by omega⟩ ?_ | refine by_zast (by first | exact rfl | assumption | exact ps_20 hpp) ⟨by omega, by omega⟩ ?_
    refine by_nil ?_
    try simp (disch := first | exact Nat.ne_of_beq_eq_false rfl | exact rfl | omega) only [nI_add, xa_sub, xa_mul, pk_div, nm_mod, xa_shr, xa_and7, xa_and1, xa_and255, xa_by_and, nI_m1, Nat.add_sub_cancel, Nat.reducePow, Nat.zero_add, Nat.add_zero, Nat.reduceAdd, Nat.reduceMul, Nat.reduceSub, xf_same, xq_ff, xq_fo, xf_1, xf_2, xs_1, xs_2, xs_same, xq_so, xj_1, xj_2, xj_same, xq_jo, xq_sa1, xq_same, xq_other, upd_s, oI_n, oI_s, xv_0, xv_1, xv_2, xv_3, xm_p1, xm_p2, xq_fp, xq_fn, List.filter_nil, Nat.reduceBEq, Bool.not_true, Bool.not_false, Bool.and_true, Bool.and_false, Bool.false_and, Bool.true_and, if_true, if_false, Bool.false_eq_true, reduceIte, xc_i, xc_j, xc_r, xc_n, List.nil_append, List.cons_append, Option.toList_some, Option.toList_none, xf_5_0 hF, h1, h3]
    with_reducible refine xm_go_blk b_X8_putBit_54 k_X8_putBit_54 ?_
    refine by_aload_n rfl ?_
    refine by_aload_n rfl ?_
    refine by_getf cn_134 fl_8_19 (by first | exact rfl | assumption | exact ps_12 hpp) (by decide) ?_
    refine by_iconst ci_1 ?_
    simp (disch := first | exact Nat.ne_of_beq_eq_false rfl | exact rfl | omega) only [nI_add, xa_sub, xa_mul, pk_div, nm_mod, xa_shr, xa_and7, xa_and1, xa_and255, xa_by_and, nI_m1, Nat.add_sub_cancel, Nat.reducePow, Nat.zero_add, Nat.add_zero, Nat.reduceAdd, Nat.reduceMul, Nat.reduceSub, xf_same, xq_ff, xq_fo, xf_1, xf_2, xs_1, xs_2, xs_same, xq_so, xj_1, xj_2, xj_same, xq_jo, xq_sa1, xq_same, xq_other, upd_s, oI_n, oI_s, xf_5_0 hF, h1, h3]
    refine by_iadd ?_
    refine by_bipush cb_7 ?_
    refine by_iand ?_
    refine by_putf cn_134 fl_8_19 (by first | exact rfl | assumption | exact ps_12 hpp) (by decide) nf_8_3 ft_8_3 (by first | rfl | assumption) (by first | rfl | assumption) ?_
    refine by_ret ry_134 ?_
    try simp (disch := first | exact Nat.ne_of_beq_eq_false rfl | exact rfl | omega) only [nI_add, xa_sub, xa_mul, pk_div, nm_mod, xa_shr, xa_and7, xa_and1, xa_and255, xa_by_and, nI_m1, Nat.add_sub_cancel, Nat.reducePow, Nat.zero_add, Nat.add_zero, Nat.reduceAdd, Nat.reduceMul, Nat.reduceSub, xf_same, xq_ff, xq_fo, xf_1, xf_2, xs_1, xs_2, xs_same, xq_so, xj_1, xj_2, xj_same, xq_jo, xq_sa1, xq_same, xq_other, upd_s, oI_n, oI_s, xf_5_0 hF, h1, h3]
    refine hfin _ (Fr_si Fr_rf (by simp)) (fun k' hk' => ?_)
    rw [if_neg e]
    by_cases z : k' = k
    · subst z
      rw [q3 1]
      simp only [xm_si, upd, if_true]
      refine ⟨?_, xa_by_fit _⟩
      rw [xa_by_nar, xa_by_or, xa_by_sh m hm8, (hv k' hk').1, or_add m hm8 _ q2 q1, Nat.one_mul]
    · rw [pk8_keep 1 hm hm8 (by omega)]
      simp only [xm_si, upd, if_true, if_neg z]
      exact hv k' hk'
theorem sp_putBit {x : Int32} (hF : XF h) (hb : penB h bl) (hn : bl.length < 65536) (hp : ∀ h', Fr [6] [(5, 1), (5, 2), (5, 3)] h h' → penB h' (bl ++ [if x = 0 then 0 else 1]) → post none h') : xm_T (XE sc) (d + 2) 134 [.ref 5, .int x] h post := by
  obtain ⟨b1, b2, b3, b4, b5, b6⟩ := hb
  refine xq_in rfl ?_
  simp only [xq_a0, xq_aI, xq_aJ, xq_aR, Nat.reduceAdd]
  by_cases e : bl.length % 8 = 0
  · have e1 : (bl.length + 7) / 8 = bl.length / 8 := by omega
    rw [e1] at b3
    rw [e] at b5
    with_reducible refine xm_go_blk b_X8_putBit_0 k_X8_putBit_0 ?_
    refine by_aload_n rfl ?_
    refine by_getf cn_134 fl_8_19 (by first | exact rfl | assumption | exact ps_12 hpp) (by decide) ?_
    refine by_bipush cb_7 ?_
    simp (disch := first | exact Nat.ne_of_beq_eq_false rfl | exact rfl | omega) only [nI_add, xa_sub, xa_mul, pk_div, nm_mod, xa_shr, xa_and7, xa_and1, xa_and255, xa_by_and, nI_m1, Nat.add_sub_cancel, Nat.reducePow, Nat.zero_add, Nat.add_zero, Nat.reduceAdd, Nat.reduceMul, Nat.reduceSub, xf_same, xq_ff, xq_fo, xf_1, xf_2, xs_1, xs_2, xs_same, xq_so, xj_1, xj_2, xj_same, xq_jo, xq_sa1, xq_same, xq_other, upd_s, oI_n, oI_s, b5]
    refine by_iand ?_
    refine by_if_ne 15 rfl ?_
    simp (disch := first | exact Nat.ne_of_beq_eq_false rfl | exact rfl | omega) only [nI_add, xa_sub, xa_mul, pk_div, nm_mod, xa_shr, xa_and7, xa_and1, xa_and255, xa_by_and, nI_m1, Nat.add_sub_cancel, Nat.reducePow, Nat.zero_add, Nat.add_zero, Nat.reduceAdd, Nat.reduceMul, Nat.reduceSub, xf_same, xq_ff, xq_fo, xf_1, xf_2, xs_1, xs_2, xs_same, xq_so, xj_1, xj_2, xj_same, xq_jo, xq_sa1, xq_same, xq_other, upd_s, oI_n, oI_s, xv_0, xv_1, xv_2, xv_3, xm_p1, xm_p2, xq_fp, xq_fn, List.filter_nil, Nat.reduceBEq, Bool.not_true, Bool.not_false, Bool.and_true, Bool.and_false, Bool.false_and, Bool.true_and, if_true, if_false, Bool.false_eq_true, reduceIte, xc_i, xc_j, xc_r, xc_n, List.nil_append, List.cons_append, Option.toList_some, Option.toList_none, nI_ltJ, nI_leJ, nI_eqJ, nI_ltz, nI_gez, nI_gtz, nI_lez, nI_eqz, m1_ltz, m1_gez, true_imp_iff, false_imp_iff, true_and, and_true, ne_eq, not_false_eq_true, not_true_eq_false, Nat.reduceEqDiff, Nat.reduceLT, Nat.reduceLeDiff, b5]
    with_reducible refine xm_go_blk b_X8_putBit_10 k_X8_putBit_10 ?_
    refine by_aload_n rfl ?_
    refine by_iconst ci_0 ?_
    refine by_inv1 cn_134 lk_8_42 (by rw [xe_cnt]; decide) is_133 np_133 cn_133 (by first | exact rfl | assumption | exact ps_12 hpp) (Nat.le_of_ble_eq_true rfl) ?_
    refine sp_put (x := nI 0) sh_5 sh_6 (xf_5_0 hF) b3 (by omega) ?_
    have f2 : Fr [6] [(5, 1)] h (xm_sf (xm_si h 6 (bl.length / 8) (vp_nar .byte (nI 0).toInt8.toInt32)) 5 1 (.int (nI (bl.length / 8 + 1)))) := Fr_sf (Fr_si Fr_rf (by simp)) (by simp)
    refine pb_15 (m := 0) (k := bl.length / 8) (bl := bl) (Fr_XF hF f2 (by decide +kernel)) b1 (by omega) (by decide) (by omega) (by simp only [xf_same]) ?_ ?_ (fun k' hk' => ?_) (fun h3 f3 p3 => hp h3 (Fr_tr (Fr_mo f2 (by simp) (by simp)) f3 (by simp) (by simp)) p3)
    · rw [f2.2.2 _ _ (by simp)]; exact b4
    · rw [f2.2.2 _ _ (by simp)]; exact b5
    · show xa_by ((xm_si h 6 (bl.length / 8) (vp_nar .byte (nI 0).toInt8.toInt32)).1 6 k') = _ ∧ fits .byte (.int ((xm_si h 6 (bl.length / 8) (vp_nar .byte (nI 0).toInt8.toInt32)).1 6 k')) = true
      by_cases z : k' = bl.length / 8
      · subst z
        simp only [xm_si, upd, if_true]
        refine ⟨?_, xa_by_fit _⟩
        rw [xa_by_put]
        unfold pk8
        rw [bg_out (by omega), bg_out (by omega), bg_out (by omega), bg_out (by omega), bg_out (by omega), bg_out (by omega), bg_out (by omega), bg_out (by omega)]
      · simp only [xm_si, upd, if_true, if_neg z]
        exact b6 k' (by omega)
  · have e' : (bl.length % 8 = 0) = False := eq_false e
    have e1 : (bl.length + 7) / 8 = bl.length / 8 + 1 := by omega
    rw [e1] at b3 b6
    with_reducible refine xm_go_blk b_X8_putBit_0 k_X8_putBit_0 ?_
    refine by_aload_n rfl ?_
    refine by_getf cn_134 fl_8_19 (by first | exact rfl | assumption | exact ps_12 hpp) (by decide) ?_
    refine by_bipush cb_7 ?_
    simp (disch := first | exact Nat.ne_of_beq_eq_false rfl | exact rfl | omega) only [nI_add, xa_sub, xa_mul, pk_div, nm_mod, xa_shr, xa_and7, xa_and1, xa_and255, xa_by_and, nI_m1, Nat.add_sub_cancel, Nat.reducePow, Nat.zero_add, Nat.add_zero, Nat.reduceAdd, Nat.reduceMul, Nat.reduceSub, xf_same, xq_ff, xq_fo, xf_1, xf_2, xs_1, xs_2, xs_same, xq_so, xj_1, xj_2, xj_same, xq_jo, xq_sa1, xq_same, xq_other, upd_s, oI_n, oI_s, b5, e', Nat.mod_mod]
    refine by_iand ?_
    refine by_if_ne 15 rfl ?_
    simp (disch := first | exact Nat.ne_of_beq_eq_false rfl | exact rfl | omega) only [nI_add, xa_sub, xa_mul, pk_div, nm_mod, xa_shr, xa_and7, xa_and1, xa_and255, xa_by_and, nI_m1, Nat.add_sub_cancel, Nat.reducePow, Nat.zero_add, Nat.add_zero, Nat.reduceAdd, Nat.reduceMul, Nat.reduceSub, xf_same, xq_ff, xq_fo, xf_1, xf_2, xs_1, xs_2, xs_same, xq_so, xj_1, xj_2, xj_same, xq_jo, xq_sa1, xq_same, xq_other, upd_s, oI_n, oI_s, xv_0, xv_1, xv_2, xv_3, xm_p1, xm_p2, xq_fp, xq_fn, List.filter_nil, Nat.reduceBEq, Bool.not_true, Bool.not_false, Bool.and_true, Bool.and_false, Bool.false_and, Bool.true_and, if_true, if_false, Bool.false_eq_true, reduceIte, xc_i, xc_j, xc_r, xc_n, List.nil_append, List.cons_append, Option.toList_some, Option.toList_none, nI_ltJ, nI_leJ, nI_eqJ, nI_ltz, nI_gez, nI_gtz, nI_lez, nI_eqz, m1_ltz, m1_gez, true_imp_iff, false_imp_iff, true_and, and_true, ne_eq, not_false_eq_true, not_true_eq_false, Nat.reduceEqDiff, Nat.reduceLT, Nat.reduceLeDiff, b5, e', Nat.mod_mod]
    exact pb_15 (m := bl.length % 8) (k := bl.length / 8) (bl := bl) hF b1 (by omega) (by omega) (by omega) b3 b4 b5 b6 (fun h3 f3 p3 => hp h3 (Fr_mo f3 (by simp) (by simp)) p3)
end PB
