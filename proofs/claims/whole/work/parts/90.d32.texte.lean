/-! ===== putBits of the class; tellsBits of the reference ===== -/
def plsb (v : Int64) (i : Nat) : Int32 := (v.toUInt64 >>> ((nI i).toInt64.toUInt64 &&& Int64.toUInt64 63)).toInt64.toInt32 &&& nI 1
section PB
variable {sc : xm_Sc} {d : Nat} {bl : List Nat} {h : xm_H} {post : xm_Po}
/-- n bits, the highest first -/
def hiB (g : Nat → Nat) : Nat → List Nat
  | 0 => []
  | n + 1 => g n :: hiB g n
theorem hiB_len (g : Nat → Nat) : ∀ n, (hiB g n).length = n
  | 0 => rfl
  | n + 1 => by simp only [hiB, List.length_cons, hiB_len g n]
theorem sp_putBits {v : Int64} {n : Nat} {g : Nat → Nat} (hF : XF h) (hb : penB h bl) (hn : bl.length + n ≤ 65536) (hg : ∀ i, i < n → plsb v i = nI (g i) ∧ g i < 2) (hp : ∀ h', Fr [6] [(5, 1), (5, 2), (5, 3)] h h' → penB h' (bl ++ hiB g n) → post none h') : xm_T (XE sc) (d + 3) 135 [.ref 5, .long v, .int (nI n)] h post := by
  have key : ∀ (i : Nat) (b2 : List Nat) (h2 : xm_H), i ≤ n → b2 ++ hiB g i = bl ++ hiB g n → b2.length + i = bl.length + n → Fr [6] [(5, 1), (5, 2), (5, 3)] h h2 → penB h2 b2 → xm_go (XE sc) (xm_T (XE sc) (d + 2)) 135 post 5 [(4, .int (if i = 0 then -1 else nI (i - 1))), (0, .ref 5), (1, .long v)] [] h2 := by
    intro i
    induction i with
    | zero =>
      intro b2 h2 hi he hl f2 p2
      rw [if_pos rfl]
      with_reducible refine xm_go_blk b_X8_putBits_5 k_X8_putBits_5 ?_
      refine by_iload rfl ?_
      refine by_if_lt 27 rfl ?_
      simp (disch := first | exact Nat.ne_of_beq_eq_false rfl | exact rfl | omega) only [nI_add, xa_sub, xa_mul, pk_div, nm_mod, xa_shr, xa_and7, xa_and1, xa_and255, xa_by_and, nI_m1, Nat.add_sub_cancel, Nat.reducePow, Nat.zero_add, Nat.add_zero, Nat.reduceAdd, Nat.reduceMul, Nat.reduceSub, xf_same, xq_ff, xq_fo, xf_1, xf_2, xs_1, xs_2, xs_same, xq_so, xj_1, xj_2, xj_same, xq_jo, xq_sa1, xq_same, xq_other, upd_s, oI_n, oI_s, xv_0, xv_1, xv_2, xv_3, xm_p1, xm_p2, xq_fp, xq_fn, List.filter_nil, Nat.reduceBEq, Bool.not_true, Bool.not_false, Bool.and_true, Bool.and_false, Bool.false_and, Bool.true_and, if_true, if_false, Bool.false_eq_true, reduceIte, xc_i, xc_j, xc_r, xc_n, List.nil_append, List.cons_append, Option.toList_some, Option.toList_none, nI_ltJ, nI_leJ, nI_eqJ, nI_ltz, nI_gez, nI_gtz, nI_lez, nI_eqz, m1_ltz, m1_gez, true_imp_iff, false_imp_iff, true_and, and_true, ne_eq, not_false_eq_true, not_true_eq_false, Nat.reduceEqDiff, Nat.reduceLT, Nat.reduceLeDiff]
      with_reducible refine xm_go_blk b_X8_putBits_27 k_X8_putBits_27 ?_
      refine by_ret ry_135 ?_
      have : b2 = bl ++ hiB g n := by simpa [hiB] using he
      exact hp h2 f2 (this ▸ p2)
    | succ i ih =>
      intro b2 h2 hi he hl f2 p2
      have F2 := Fr_XF hF f2 (by decide +kernel)
      obtain ⟨g1, g2⟩ := hg i (by omega)
      rw [if_neg (by omega), Nat.add_sub_cancel]
      unfold plsb at g1
      with_reducible refine xm_go_blk b_X8_putBits_5 k_X8_putBits_5 ?_
      refine by_iload rfl ?_
      refine by_if_lt 27 rfl ?_
      simp (disch := first | exact Nat.ne_of_beq_eq_false rfl | exact rfl | omega) only [nI_add, xa_sub, xa_mul, pk_div, nm_mod, xa_shr, xa_and7, xa_and1, xa_and255, xa_by_and, nI_m1, Nat.add_sub_cancel, Nat.reducePow, Nat.zero_add, Nat.add_zero, Nat.reduceAdd, Nat.reduceMul, Nat.reduceSub, xf_same, xq_ff, xq_fo, xf_1, xf_2, xs_1, xs_2, xs_same, xq_so, xj_1, xj_2, xj_same, xq_jo, xq_sa1, xq_same, xq_other, upd_s, oI_n, oI_s, xv_0, xv_1, xv_2, xv_3, xm_p1, xm_p2, xq_fp, xq_fn, List.filter_nil, Nat.reduceBEq, Bool.not_true, Bool.not_false, Bool.and_true, Bool.and_false, Bool.false_and, Bool.true_and, if_true, if_false, Bool.false_eq_true, reduceIte, xc_i, xc_j, xc_r, xc_n, List.nil_append, List.cons_append, Option.toList_some, Option.toList_none, nI_ltJ, nI_leJ, nI_eqJ, nI_ltz, nI_gez, nI_gtz, nI_lez, nI_eqz, m1_ltz, m1_gez, true_imp_iff, false_imp_iff, true_and, and_true, ne_eq, not_false_eq_true, not_true_eq_false, Nat.reduceEqDiff, Nat.reduceLT, Nat.reduceLeDiff, g1]
      with_reducible refine xm_go_blk b_X8_putBits_10 k_X8_putBits_10 ?_
      refine by_aload_n rfl ?_
      refine by_lload_n rfl ?_
      refine by_iload rfl ?_
      refine by_lushr ?_
      refine by_l2i ?_
      refine by_iconst ci_1 ?_
      refine by_iand ?_
      simp (disch := first | exact Nat.ne_of_beq_eq_false rfl | exact rfl | omega) only [nI_add, xa_sub, xa_mul, pk_div, nm_mod, xa_shr, xa_and7, xa_and1, xa_and255, xa_by_and, nI_m1, Nat.add_sub_cancel, Nat.reducePow, Nat.zero_add, Nat.add_zero, Nat.reduceAdd, Nat.reduceMul, Nat.reduceSub, xf_same, xq_ff, xq_fo, xf_1, xf_2, xs_1, xs_2, xs_same, xq_so, xj_1, xj_2, xj_same, xq_jo, xq_sa1, xq_same, xq_other, upd_s, oI_n, oI_s, xv_0, xv_1, xv_2, xv_3, xm_p1, xm_p2, xq_fp, xq_fn, List.filter_nil, Nat.reduceBEq, Bool.not_true, Bool.not_false, Bool.and_true, Bool.and_false, Bool.false_and, Bool.true_and, if_true, if_false, Bool.false_eq_true, reduceIte, xc_i, xc_j, xc_r, xc_n, List.nil_append, List.cons_append, Option.toList_some, Option.toList_none, g1]
      refine by_inv1 cn_135 lk_8_46 (by rw [xe_cnt]; decide) is_134 np_134 cn_134 (by first | exact rfl | assumption | exact ps_12 hpp) (Nat.le_of_ble_eq_true rfl) ?_
      refine sp_putBit F2 p2 (by omega) (fun h3 f3 p3 => ?_)
      have eb : (if nI (g i) = 0 then 0 else 1) = g i := by
        rcases (by omega : g i = 0 ∨ g i = 1) with z | z <;> rw [z] <;> rfl
      rw [eb] at p3
      have := ih (b2 ++ [g i]) h3 (by omega) (by rw [← he]; simp [hiB]) (by simp; omega) (Fr_tr f2 f3 (fun _ z => z) (fun _ z => z)) p3
      have e2 : nI i + -1 = (if i = 0 then -1 else nI (i - 1)) := by
        by_cases z : i = 0
        · subst z; rfl
        · rw [if_neg z, nI_m1 (by omega)]
      with_reducible refine xm_go_blk b_X8_putBits_21 k_X8_putBits_21 ?_
      refine by_iinc (by rw [ml_135]; decide) rfl ci_m1 ?_
      refine by_goto 5 rfl ?_
      try simp (disch := first | exact Nat.ne_of_beq_eq_false rfl | exact rfl | omega) only [nI_add, xa_sub, xa_mul, pk_div, nm_mod, xa_shr, xa_and7, xa_and1, xa_and255, xa_by_and, nI_m1, Nat.add_sub_cancel, Nat.reducePow, Nat.zero_add, Nat.add_zero, Nat.reduceAdd, Nat.reduceMul, Nat.reduceSub, xf_same, xq_ff, xq_fo, xf_1, xf_2, xs_1, xs_2, xs_same, xq_so, xj_1, xj_2, xj_same, xq_jo, xq_sa1, xq_same, xq_other, upd_s, oI_n, oI_s, xv_0, xv_1, xv_2, xv_3, xm_p1, xm_p2, xq_fp, xq_fn, List.filter_nil, Nat.reduceBEq, Bool.not_true, Bool.not_false, Bool.and_true, Bool.and_false, Bool.false_and, Bool.true_and, if_true, if_false, Bool.false_eq_true, reduceIte, xc_i, xc_j, xc_r, xc_n, List.nil_append, List.cons_append, Option.toList_some, Option.toList_none, e2]
      exact xm_go_wk (by simp [Value.category]) this
  refine xq_in rfl ?_
  simp only [xq_a0, xq_aI, xq_aJ, xq_aR, Nat.reduceAdd]
  have e2 : nI n - nI 1 = (if n = 0 then -1 else nI (n - 1)) := by
    by_cases z : n = 0
    · subst z; rfl
    · rw [if_neg z, xa_sub (by omega)]
  by_cases z : n = 0
  · subst z
    with_reducible refine xm_go_blk b_X8_putBits_0 k_X8_putBits_0 ?_
    refine by_iload_n rfl ?_
    refine by_iconst ci_1 ?_
    refine by_isub ?_
    refine by_istore (by rw [ml_135]; decide) ?_
    refine by_nil ?_
    try simp (disch := first | exact Nat.ne_of_beq_eq_false rfl | exact rfl | omega) only [nI_add, xa_sub, xa_mul, pk_div, nm_mod, xa_shr, xa_and7, xa_and1, xa_and255, xa_by_and, nI_m1, Nat.add_sub_cancel, Nat.reducePow, Nat.zero_add, Nat.add_zero, Nat.reduceAdd, Nat.reduceMul, Nat.reduceSub, xf_same, xq_ff, xq_fo, xf_1, xf_2, xs_1, xs_2, xs_same, xq_so, xj_1, xj_2, xj_same, xq_jo, xq_sa1, xq_same, xq_other, upd_s, oI_n, oI_s, xv_0, xv_1, xv_2, xv_3, xm_p1, xm_p2, xq_fp, xq_fn, List.filter_nil, Nat.reduceBEq, Bool.not_true, Bool.not_false, Bool.and_true, Bool.and_false, Bool.false_and, Bool.true_and, if_true, if_false, Bool.false_eq_true, reduceIte, xc_i, xc_j, xc_r, xc_n, List.nil_append, List.cons_append, Option.toList_some, Option.toList_none, e2]
    exact xm_go_wk (by simp [Value.category]) (key 0 bl h (Nat.le_refl _) rfl (by omega) Fr_rf hb)
  · have k0 := key n bl h (Nat.le_refl _) rfl (by omega) Fr_rf hb
    rw [if_neg z] at k0
    with_reducible refine xm_go_blk b_X8_putBits_0 k_X8_putBits_0 ?_
    refine by_iload_n rfl ?_
    refine by_iconst ci_1 ?_
    refine by_isub ?_
    refine by_istore (by rw [ml_135]; decide) ?_
    refine by_nil ?_
    try simp (disch := first | exact Nat.ne_of_beq_eq_false rfl | exact rfl | omega) only [nI_add, xa_sub, xa_mul, pk_div, nm_mod, xa_shr, xa_and7, xa_and1, xa_and255, xa_by_and, nI_m1, Nat.add_sub_cancel, Nat.reducePow, Nat.zero_add, Nat.add_zero, Nat.reduceAdd, Nat.reduceMul, Nat.reduceSub, xf_same, xq_ff, xq_fo, xf_1, xf_2, xs_1, xs_2, xs_same, xq_so, xj_1, xj_2, xj_same, xq_jo, xq_sa1, xq_same, xq_other, upd_s, oI_n, oI_s, xv_0, xv_1, xv_2, xv_3, xm_p1, xm_p2, xq_fp, xq_fn, List.filter_nil, Nat.reduceBEq, Bool.not_true, Bool.not_false, Bool.and_true, Bool.and_false, Bool.false_and, Bool.true_and, if_true, if_false, Bool.false_eq_true, reduceIte, xc_i, xc_j, xc_r, xc_n, List.nil_append, List.cons_append, Option.toList_some, Option.toList_none]
    exact xm_go_wk (by simp [Value.category]) k0
/-- the bits at p .. of the reference, n of them -/
def rdB (v : Nat → Nat) (p n : Nat) : List Nat := (List.range n).map (fun i => v (p + i))
theorem rdB_len (v : Nat → Nat) (p n : Nat) : (rdB v p n).length = n := by simp [rdB]
theorem rdB_g {v : Nat → Nat} {p n i : Nat} : bg (rdB v p n) i = if i < n then v (p + i) else 0 := by
  unfold bg rdB
  rw [List.getD_eq_getElem?_getD, List.getElem?_map]
  by_cases e : i < n
  · rw [List.getElem?_range e, if_pos e]; rfl
  · rw [List.getElem?_eq_none (by simp; omega), if_neg e]; rfl
theorem tb_or : ∀ a, a < 128 → ∀ b, b < 2 → nI a <<< (nI 1 &&& 31) ||| nI b = nI (2 * a + b) := by decide +kernel
def pkP (g : Nat → Nat) (k : Nat) : Nat → Nat
  | 0 => 0
  | j + 1 => 2 * pkP g k j + g (8 * k + j)
theorem pkP_lt {g : Nat → Nat} (hg : ∀ i, g i < 2) (k : Nat) : ∀ j, pkP g k j < 2 ^ j
  | 0 => Nat.one_pos
  | j + 1 => by
    have := pkP_lt hg k j; have := hg (8 * k + j)
    rw [pkP, Nat.pow_succ]; omega
theorem pkP_8 (g : Nat → Nat) (k : Nat) : pkP g k 8 = pk8 g k := by
  simp only [pkP, pk8, Nat.add_zero]; omega
theorem sp_tellsBits {v : Nat → Nat} {p n : Nat} (hF : XF h) (hv : ∀ i, i < n → h.1 145 (p + i) = nI (v (p + i)) ∧ v (p + i) < 2) (hn : n ≤ 65536) (hpn : p + n ≤ 824000)
    (hp : ∀ h', Fr [104] [(102, 4)] h h' → mrow h' 104 (pkL (rdB v p n)) → h'.2.2 102 4 = .int (nI ((n + 7) / 8)) → post (some (.int (nI ((n + 7) / 8)))) h') : xm_T (XE sc) (d + 1) 307 [.ref 102, .int (nI p), .int (nI n)] h post := by
  have hg : ∀ i, bg (rdB v p n) i < 2 := fun i => by
    rw [rdB_g]; split
    · rename_i z; exact (hv i z).2
    · decide
  have hlen : (rdB v p n).length = n := rdB_len _ _ _
  have key : ∀ (j k : Nat) (h2 : xm_H), k + j = (n + 7) / 8 → Fr [104] [(102, 4)] h h2 → h2.2.2 102 4 = .int (nI ((n + 7) / 8)) → (∀ i, i < k → h2.1 104 i = nI (pk8 (bg (rdB v p n)) i)) → xm_go (XE sc) (xm_T (XE sc) d) 307 post 13 [(3, .int (nI k)), (0, .ref 102), (1, .int (nI p)), (2, .int (nI n))] [] h2 := by
    intro j
    induction j with
    | zero =>
      intro k h2 hk f2 o2 r2
      with_reducible refine xm_go_blk b_X12_tellsBits_13 k_X12_tellsBits_13 ?_
      refine by_iload_n rfl ?_
      refine by_aload_n rfl ?_
      refine by_getf cn_307 fl_12_220 (by first | exact rfl | assumption) (by decide) ?_
      simp (disch := first | exact Nat.ne_of_beq_eq_false rfl | exact rfl | omega) only [nI_add, xa_sub, xa_mul, pk_div, nm_mod, xa_shr, xa_and7, xa_and1, xa_and255, xa_by_and, nI_m1, Nat.add_sub_cancel, Nat.reducePow, Nat.zero_add, Nat.add_zero, Nat.reduceAdd, Nat.reduceMul, Nat.reduceSub, xf_same, xq_ff, xq_fo, xf_1, xf_2, xs_1, xs_2, xs_same, xq_so, xj_1, xj_2, xj_same, xq_jo, xq_sa1, xq_same, xq_other, upd_s, oI_n, oI_s, o2]
      refine by_ic_ge 88 rfl ?_
      simp (disch := first | exact Nat.ne_of_beq_eq_false rfl | exact rfl | omega) only [nI_add, xa_sub, xa_mul, pk_div, nm_mod, xa_shr, xa_and7, xa_and1, xa_and255, xa_by_and, nI_m1, Nat.add_sub_cancel, Nat.reducePow, Nat.zero_add, Nat.add_zero, Nat.reduceAdd, Nat.reduceMul, Nat.reduceSub, xf_same, xq_ff, xq_fo, xf_1, xf_2, xs_1, xs_2, xs_same, xq_so, xj_1, xj_2, xj_same, xq_jo, xq_sa1, xq_same, xq_other, upd_s, oI_n, oI_s, xv_0, xv_1, xv_2, xv_3, xm_p1, xm_p2, xq_fp, xq_fn, List.filter_nil, Nat.reduceBEq, Bool.not_true, Bool.not_false, Bool.and_true, Bool.and_false, Bool.false_and, Bool.true_and, if_true, if_false, Bool.false_eq_true, reduceIte, xc_i, xc_j, xc_r, xc_n, List.nil_append, List.cons_append, Option.toList_some, Option.toList_none, nI_ltJ, nI_leJ, nI_eqJ, nI_ltz, nI_gez, nI_gtz, nI_lez, nI_eqz, m1_ltz, m1_gez, true_imp_iff, false_imp_iff, true_and, and_true, ne_eq, not_false_eq_true, not_true_eq_false, Nat.reduceEqDiff, Nat.reduceLT, Nat.reduceLeDiff, o2]
      refine ⟨fun c13 => ?_, fun c => absurd (by omega) c⟩
      with_reducible refine xm_go_blk b_X12_tellsBits_88 k_X12_tellsBits_88 ?_
      refine by_aload_n rfl ?_
      refine by_getf cn_307 fl_12_220 (by first | exact rfl | assumption) (by decide) ?_
      simp (disch := first | exact Nat.ne_of_beq_eq_false rfl | exact rfl | omega) only [nI_add, xa_sub, xa_mul, pk_div, nm_mod, xa_shr, xa_and7, xa_and1, xa_and255, xa_by_and, nI_m1, Nat.add_sub_cancel, Nat.reducePow, Nat.zero_add, Nat.add_zero, Nat.reduceAdd, Nat.reduceMul, Nat.reduceSub, xf_same, xq_ff, xq_fo, xf_1, xf_2, xs_1, xs_2, xs_same, xq_so, xj_1, xj_2, xj_same, xq_jo, xq_sa1, xq_same, xq_other, upd_s, oI_n, oI_s, o2]
      refine by_iret ry_307 (by first | rfl | assumption) ?_
      refine hp h2 f2 ⟨fun i hi => ?_, fun i hi => ?_, by rw [pkL_len, hlen]; omega⟩ o2
      · rw [pkL_len, hlen] at hi
        rw [pkL_get (by rw [hlen]; exact hi)]; exact r2 i (by omega)
      · rw [pkL_len, hlen] at hi
        rw [pkL_get (by rw [hlen]; exact hi)]
        have := pkP_lt hg i 8
        rw [pkP_8] at this; exact this
    | succ j ih =>
      intro k h2 hk f2 o2 r2
      have F2 := Fr_XF hF f2 (by decide +kernel)
      have inner : ∀ (b a : Nat), a + b = 8 → xm_go (XE sc) (xm_T (XE sc) d) 307 post 30 [(5, .int (nI (8 * k + a))), (4, .int (nI (pkP (bg (rdB v p n)) k a))), (3, .int (nI k)), (0, .ref 102), (1, .int (nI p)), (2, .int (nI n))] [] h2 := by
        intro b
        induction b with
        | zero =>
          intro a ha
          have : a = 8 := by omega
          subst this
          with_reducible refine xm_go_blk b_X12_tellsBits_30 k_X12_tellsBits_30 ?_
          refine by_iload rfl ?_
          refine by_bipush cb_8 ?_
          refine by_iload_n rfl ?_
          refine by_imul ?_
          refine by_bipush cb_8 ?_
          refine by_iadd ?_
          refine by_ic_ge 74 rfl ?_
          simp (disch := first | exact Nat.ne_of_beq_eq_false rfl | exact rfl | omega) only [nI_add, xa_sub, xa_mul, pk_div, nm_mod, xa_shr, xa_and7, xa_and1, xa_and255, xa_by_and, nI_m1, Nat.add_sub_cancel, Nat.reducePow, Nat.zero_add, Nat.add_zero, Nat.reduceAdd, Nat.reduceMul, Nat.reduceSub, xf_same, xq_ff, xq_fo, xf_1, xf_2, xs_1, xs_2, xs_same, xq_so, xj_1, xj_2, xj_same, xq_jo, xq_sa1, xq_same, xq_other, upd_s, oI_n, oI_s, xv_0, xv_1, xv_2, xv_3, xm_p1, xm_p2, xq_fp, xq_fn, List.filter_nil, Nat.reduceBEq, Bool.not_true, Bool.not_false, Bool.and_true, Bool.and_false, Bool.false_and, Bool.true_and, if_true, if_false, Bool.false_eq_true, reduceIte, xc_i, xc_j, xc_r, xc_n, List.nil_append, List.cons_append, Option.toList_some, Option.toList_none, nI_ltJ, nI_leJ, nI_eqJ, nI_ltz, nI_gez, nI_gtz, nI_lez, nI_eqz, m1_ltz, m1_gez, true_imp_iff, false_imp_iff, true_and, and_true, ne_eq, not_false_eq_true, not_true_eq_false, Nat.reduceEqDiff, Nat.reduceLT, Nat.reduceLeDiff, xf_102_3 F2]
          refine ⟨fun c30 => ?_, fun c => absurd (by omega) c⟩
          with_reducible refine xm_go_blk b_X12_tellsBits_74 k_X12_tellsBits_74 ?_
          refine by_aload_n rfl ?_
          refine by_getf cn_307 fl_12_13 (by first | exact rfl | assumption) (by decide) ?_
          refine by_iload_n rfl ?_
          refine by_iload rfl ?_
          simp (disch := first | exact Nat.ne_of_beq_eq_false rfl | exact rfl | omega) only [nI_add, xa_sub, xa_mul, pk_div, nm_mod, xa_shr, xa_and7, xa_and1, xa_and255, xa_by_and, nI_m1, Nat.add_sub_cancel, Nat.reducePow, Nat.zero_add, Nat.add_zero, Nat.reduceAdd, Nat.reduceMul, Nat.reduceSub, xf_same, xq_ff, xq_fo, xf_1, xf_2, xs_1, xs_2, xs_same, xq_so, xj_1, xj_2, xj_same, xq_jo, xq_sa1, xq_same, xq_other, upd_s, oI_n, oI_s, xf_102_3 F2]
          refine by_iast (by first | exact rfl | assumption | exact ps_1 hpp | exact ps_2 hpp | exact ps_3 hpp | exact ps_4 hpp | exact ps_5 hpp | exact ps_6 hpp | exact ps_7 hpp | exact ps_8 hpp | exact ps_9 hpp | exact ps_10 hpp | exact ps_11 hpp | exact ps_15 hpp | exact ps_16 hpp | exact ps_17 hpp | exact ps_18 hpp | exact ps_19 hpp | exact ps_21 hpp | exact ps_22 hpp | exact ps_23 hpp | exact ps_24 hpp) ⟨by omega, by omega⟩ ?_
          refine by_iinc (by rw [ml_307]; decide) rfl ci_1 ?_
          refine by_goto 13 rfl ?_
          try simp (disch := first | exact Nat.ne_of_beq_eq_false rfl | exact rfl | omega) only [nI_add, xa_sub, xa_mul, pk_div, nm_mod, xa_shr, xa_and7, xa_and1, xa_and255, xa_by_and, nI_m1, Nat.add_sub_cancel, Nat.reducePow, Nat.zero_add, Nat.add_zero, Nat.reduceAdd, Nat.reduceMul, Nat.reduceSub, xf_same, xq_ff, xq_fo, xf_1, xf_2, xs_1, xs_2, xs_same, xq_so, xj_1, xj_2, xj_same, xq_jo, xq_sa1, xq_same, xq_other, upd_s, oI_n, oI_s, xv_0, xv_1, xv_2, xv_3, xm_p1, xm_p2, xq_fp, xq_fn, List.filter_nil, Nat.reduceBEq, Bool.not_true, Bool.not_false, Bool.and_true, Bool.and_false, Bool.false_and, Bool.true_and, if_true, if_false, Bool.false_eq_true, reduceIte, xc_i, xc_j, xc_r, xc_n, List.nil_append, List.cons_append, Option.toList_some, Option.toList_none, xf_102_3 F2]
          refine xm_go_wk (by simp [Value.category]) (ih (k + 1) _ (by omega) (Fr_si f2 (by simp)) (by simpa [xm_si] using o2) (fun i hi => ?_))
          by_cases z : i = k
          · subst z; simp only [xm_si, upd, if_true]; rw [pkP_8]
          · rw [← r2 i (by omega)]; simp [xm_si, upd, z]
        | succ b ihb =>
          intro a ha
          have lt := pkP_lt hg k a
          have lt2 : 2 ^ a ≤ 128 := by
            have : ∀ a, a < 8 → 2 ^ a ≤ 128 := by decide
            exact this a (by omega)
          have gl := hg (8 * k + a)
          have eo := tb_or (pkP (bg (rdB v p n)) k a) (by omega) (bg (rdB v p n) (8 * k + a)) gl
          by_cases z : 8 * k + a < n
          · have ev : h2.1 145 (p + (8 * k + a)) = nI (bg (rdB v p n) (8 * k + a)) := by
              rw [f2.1 145 (by simp), rdB_g, if_pos z]; exact (hv _ z).1
            with_reducible refine xm_go_blk b_X12_tellsBits_30 k_X12_tellsBits_30 ?_
            refine by_iload rfl ?_
            refine by_bipush cb_8 ?_
            refine by_iload_n rfl ?_
            refine by_imul ?_
            refine by_bipush cb_8 ?_
            refine by_iadd ?_
            refine by_ic_ge 74 rfl ?_
            simp (disch := first | exact Nat.ne_of_beq_eq_false rfl | exact rfl | omega) only [nI_add, xa_sub, xa_mul, pk_div, nm_mod, xa_shr, xa_and7, xa_and1, xa_and255, xa_by_and, nI_m1, Nat.add_sub_cancel, Nat.reducePow, Nat.zero_add, Nat.add_zero, Nat.reduceAdd, Nat.reduceMul, Nat.reduceSub, xf_same, xq_ff, xq_fo, xf_1, xf_2, xs_1, xs_2, xs_same, xq_so, xj_1, xj_2, xj_same, xq_jo, xq_sa1, xq_same, xq_other, upd_s, oI_n, oI_s, xv_0, xv_1, xv_2, xv_3, xm_p1, xm_p2, xq_fp, xq_fn, List.filter_nil, Nat.reduceBEq, Bool.not_true, Bool.not_false, Bool.and_true, Bool.and_false, Bool.false_and, Bool.true_and, if_true, if_false, Bool.false_eq_true, reduceIte, xc_i, xc_j, xc_r, xc_n, List.nil_append, List.cons_append, Option.toList_some, Option.toList_none, nI_ltJ, nI_leJ, nI_eqJ, nI_ltz, nI_gez, nI_gtz, nI_lez, nI_eqz, m1_ltz, m1_gez, true_imp_iff, false_imp_iff, true_and, and_true, ne_eq, not_false_eq_true, not_true_eq_false, Nat.reduceEqDiff, Nat.reduceLT, Nat.reduceLeDiff, xf_102_58 F2, ev, eo]
            refine ⟨fun c => absurd c (by omega), fun c30 => ?_⟩
            with_reducible refine xm_go_blk b_X12_tellsBits_42 k_X12_tellsBits_42 ?_
            refine by_iload rfl ?_
            refine by_iconst ci_1 ?_
            refine by_ishl ?_
            refine by_iload rfl ?_
            refine by_iload_n rfl ?_
            refine by_ic_ge 64 rfl ?_
            simp (disch := first | exact Nat.ne_of_beq_eq_false rfl | exact rfl | omega) only [nI_add, xa_sub, xa_mul, pk_div, nm_mod, xa_shr, xa_and7, xa_and1, xa_and255, xa_by_and, nI_m1, Nat.add_sub_cancel, Nat.reducePow, Nat.zero_add, Nat.add_zero, Nat.reduceAdd, Nat.reduceMul, Nat.reduceSub, xf_same, xq_ff, xq_fo, xf_1, xf_2, xs_1, xs_2, xs_same, xq_so, xj_1, xj_2, xj_same, xq_jo, xq_sa1, xq_same, xq_other, upd_s, oI_n, oI_s, xv_0, xv_1, xv_2, xv_3, xm_p1, xm_p2, xq_fp, xq_fn, List.filter_nil, Nat.reduceBEq, Bool.not_true, Bool.not_false, Bool.and_true, Bool.and_false, Bool.false_and, Bool.true_and, if_true, if_false, Bool.false_eq_true, reduceIte, xc_i, xc_j, xc_r, xc_n, List.nil_append, List.cons_append, Option.toList_some, Option.toList_none, nI_ltJ, nI_leJ, nI_eqJ, nI_ltz, nI_gez, nI_gtz, nI_lez, nI_eqz, m1_ltz, m1_gez, true_imp_iff, false_imp_iff, true_and, and_true, ne_eq, not_false_eq_true, not_true_eq_false, Nat.reduceEqDiff, Nat.reduceLT, Nat.reduceLeDiff, xf_102_58 F2, ev, eo]
            refine ⟨fun c => absurd c (by omega), fun c42 => ?_⟩
            with_reducible refine xm_go_blk b_X12_tellsBits_52 k_X12_tellsBits_52 ?_
            refine by_aload_n rfl ?_
            refine by_getf cn_307 fl_12_141 (by first | exact rfl | assumption) (by decide) ?_
            refine by_iload_n rfl ?_
            refine by_iload rfl ?_
            refine by_iadd ?_
            simp (disch := first | exact Nat.ne_of_beq_eq_false rfl | exact rfl | omega) only [nI_add, xa_sub, xa_mul, pk_div, nm_mod, xa_shr, xa_and7, xa_and1, xa_and255, xa_by_and, nI_m1, Nat.add_sub_cancel, Nat.reducePow, Nat.zero_add, Nat.add_zero, Nat.reduceAdd, Nat.reduceMul, Nat.reduceSub, xf_same, xq_ff, xq_fo, xf_1, xf_2, xs_1, xs_2, xs_same, xq_so, xj_1, xj_2, xj_same, xq_jo, xq_sa1, xq_same, xq_other, upd_s, oI_n, oI_s, xf_102_58 F2, ev, eo]
            first | refine by_bald (Or.inl rfl) (by first | exact rfl | assumption | exact ps_13 hpp) ⟨by omega, by omega⟩ ?_ | refine by_bald (Or.inr rfl) (by first | exact rfl | assumption | exact ps_20 hpp) ⟨by omega, by omega⟩ ?_
            refine by_goto 65 rfl ?_
            try simp (disch := first | exact Nat.ne_of_beq_eq_false rfl | exact rfl | omega) only [nI_add, xa_sub, xa_mul, pk_div, nm_mod, xa_shr, xa_and7, xa_and1, xa_and255, xa_by_and, nI_m1, Nat.add_sub_cancel, Nat.reducePow, Nat.zero_add, Nat.add_zero, Nat.reduceAdd, Nat.reduceMul, Nat.reduceSub, xf_same, xq_ff, xq_fo, xf_1, xf_2, xs_1, xs_2, xs_same, xq_so, xj_1, xj_2, xj_same, xq_jo, xq_sa1, xq_same, xq_other, upd_s, oI_n, oI_s, xv_0, xv_1, xv_2, xv_3, xm_p1, xm_p2, xq_fp, xq_fn, List.filter_nil, Nat.reduceBEq, Bool.not_true, Bool.not_false, Bool.and_true, Bool.and_false, Bool.false_and, Bool.true_and, if_true, if_false, Bool.false_eq_true, reduceIte, xc_i, xc_j, xc_r, xc_n, List.nil_append, List.cons_append, Option.toList_some, Option.toList_none, xf_102_58 F2, ev, eo]
            with_reducible refine xm_go_blk b_X12_tellsBits_65 k_X12_tellsBits_65 ?_
            refine by_ior ?_
            refine by_istore (by rw [ml_307]; decide) ?_
            refine by_iinc (by rw [ml_307]; decide) rfl ci_1 ?_
            refine by_goto 30 rfl ?_
            try simp (disch := first | exact Nat.ne_of_beq_eq_false rfl | exact rfl | omega) only [nI_add, xa_sub, xa_mul, pk_div, nm_mod, xa_shr, xa_and7, xa_and1, xa_and255, xa_by_and, nI_m1, Nat.add_sub_cancel, Nat.reducePow, Nat.zero_add, Nat.add_zero, Nat.reduceAdd, Nat.reduceMul, Nat.reduceSub, xf_same, xq_ff, xq_fo, xf_1, xf_2, xs_1, xs_2, xs_same, xq_so, xj_1, xj_2, xj_same, xq_jo, xq_sa1, xq_same, xq_other, upd_s, oI_n, oI_s, xv_0, xv_1, xv_2, xv_3, xm_p1, xm_p2, xq_fp, xq_fn, List.filter_nil, Nat.reduceBEq, Bool.not_true, Bool.not_false, Bool.and_true, Bool.and_false, Bool.false_and, Bool.true_and, if_true, if_false, Bool.false_eq_true, reduceIte, xc_i, xc_j, xc_r, xc_n, List.nil_append, List.cons_append, Option.toList_some, Option.toList_none, xf_102_58 F2, ev, eo]
            refine xm_go_wk (by simp [Value.category, pkP, Nat.add_assoc]) (ihb (a + 1) (by omega))
          · have ev : bg (rdB v p n) (8 * k + a) = 0 := by rw [rdB_g, if_neg z]
            rw [ev] at eo
            with_reducible refine xm_go_blk b_X12_tellsBits_30 k_X12_tellsBits_30 ?_
            refine by_iload rfl ?_
            refine by_bipush cb_8 ?_
            refine by_iload_n rfl ?_
            refine by_imul ?_
            refine by_bipush cb_8 ?_
            refine by_iadd ?_
            refine by_ic_ge 74 rfl ?_
            simp (disch := first | exact Nat.ne_of_beq_eq_false rfl | exact rfl | omega) only [nI_add, xa_sub, xa_mul, pk_div, nm_mod, xa_shr, xa_and7, xa_and1, xa_and255, xa_by_and, nI_m1, Nat.add_sub_cancel, Nat.reducePow, Nat.zero_add, Nat.add_zero, Nat.reduceAdd, Nat.reduceMul, Nat.reduceSub, xf_same, xq_ff, xq_fo, xf_1, xf_2, xs_1, xs_2, xs_same, xq_so, xj_1, xj_2, xj_same, xq_jo, xq_sa1, xq_same, xq_other, upd_s, oI_n, oI_s, xv_0, xv_1, xv_2, xv_3, xm_p1, xm_p2, xq_fp, xq_fn, List.filter_nil, Nat.reduceBEq, Bool.not_true, Bool.not_false, Bool.and_true, Bool.and_false, Bool.false_and, Bool.true_and, if_true, if_false, Bool.false_eq_true, reduceIte, xc_i, xc_j, xc_r, xc_n, List.nil_append, List.cons_append, Option.toList_some, Option.toList_none, nI_ltJ, nI_leJ, nI_eqJ, nI_ltz, nI_gez, nI_gtz, nI_lez, nI_eqz, m1_ltz, m1_gez, true_imp_iff, false_imp_iff, true_and, and_true, ne_eq, not_false_eq_true, not_true_eq_false, Nat.reduceEqDiff, Nat.reduceLT, Nat.reduceLeDiff, eo]
            refine ⟨fun c => absurd c (by omega), fun c30 => ?_⟩
            with_reducible refine xm_go_blk b_X12_tellsBits_42 k_X12_tellsBits_42 ?_
            refine by_iload rfl ?_
            refine by_iconst ci_1 ?_
            refine by_ishl ?_
            refine by_iload rfl ?_
            refine by_iload_n rfl ?_
            refine by_ic_ge 64 rfl ?_
            simp (disch := first | exact Nat.ne_of_beq_eq_false rfl | exact rfl | omega) only [nI_add, xa_sub, xa_mul, pk_div, nm_mod, xa_shr, xa_and7, xa_and1, xa_and255, xa_by_and, nI_m1, Nat.add_sub_cancel, Nat.reducePow, Nat.zero_add, Nat.add_zero, Nat.reduceAdd, Nat.reduceMul, Nat.reduceSub, xf_same, xq_ff, xq_fo, xf_1, xf_2, xs_1, xs_2, xs_same, xq_so, xj_1, xj_2, xj_same, xq_jo, xq_sa1, xq_same, xq_other, upd_s, oI_n, oI_s, xv_0, xv_1, xv_2, xv_3, xm_p1, xm_p2, xq_fp, xq_fn, List.filter_nil, Nat.reduceBEq, Bool.not_true, Bool.not_false, Bool.and_true, Bool.and_false, Bool.false_and, Bool.true_and, if_true, if_false, Bool.false_eq_true, reduceIte, xc_i, xc_j, xc_r, xc_n, List.nil_append, List.cons_append, Option.toList_some, Option.toList_none, nI_ltJ, nI_leJ, nI_eqJ, nI_ltz, nI_gez, nI_gtz, nI_lez, nI_eqz, m1_ltz, m1_gez, true_imp_iff, false_imp_iff, true_and, and_true, ne_eq, not_false_eq_true, not_true_eq_false, Nat.reduceEqDiff, Nat.reduceLT, Nat.reduceLeDiff, eo]
            refine ⟨fun c42 => ?_, fun c => absurd (by omega) c⟩
            with_reducible refine xm_go_blk b_X12_tellsBits_64 k_X12_tellsBits_64 ?_
            refine by_iconst ci_0 ?_
            refine by_nil ?_
            with_reducible refine xm_go_blk b_X12_tellsBits_65 k_X12_tellsBits_65 ?_
            refine by_ior ?_
            refine by_istore (by rw [ml_307]; decide) ?_
            refine by_iinc (by rw [ml_307]; decide) rfl ci_1 ?_
            refine by_goto 30 rfl ?_
            try simp (disch := first | exact Nat.ne_of_beq_eq_false rfl | exact rfl | omega) only [nI_add, xa_sub, xa_mul, pk_div, nm_mod, xa_shr, xa_and7, xa_and1, xa_and255, xa_by_and, nI_m1, Nat.add_sub_cancel, Nat.reducePow, Nat.zero_add, Nat.add_zero, Nat.reduceAdd, Nat.reduceMul, Nat.reduceSub, xf_same, xq_ff, xq_fo, xf_1, xf_2, xs_1, xs_2, xs_same, xq_so, xj_1, xj_2, xj_same, xq_jo, xq_sa1, xq_same, xq_other, upd_s, oI_n, oI_s, xv_0, xv_1, xv_2, xv_3, xm_p1, xm_p2, xq_fp, xq_fn, List.filter_nil, Nat.reduceBEq, Bool.not_true, Bool.not_false, Bool.and_true, Bool.and_false, Bool.false_and, Bool.true_and, if_true, if_false, Bool.false_eq_true, reduceIte, xc_i, xc_j, xc_r, xc_n, List.nil_append, List.cons_append, Option.toList_some, Option.toList_none, eo]
            refine xm_go_wk (by simp [Value.category, pkP, ev, Nat.add_assoc]) (ihb (a + 1) (by omega))
      with_reducible refine xm_go_blk b_X12_tellsBits_13 k_X12_tellsBits_13 ?_
      refine by_iload_n rfl ?_
      refine by_aload_n rfl ?_
      refine by_getf cn_307 fl_12_220 (by first | exact rfl | assumption) (by decide) ?_
      simp (disch := first | exact Nat.ne_of_beq_eq_false rfl | exact rfl | omega) only [nI_add, xa_sub, xa_mul, pk_div, nm_mod, xa_shr, xa_and7, xa_and1, xa_and255, xa_by_and, nI_m1, Nat.add_sub_cancel, Nat.reducePow, Nat.zero_add, Nat.add_zero, Nat.reduceAdd, Nat.reduceMul, Nat.reduceSub, xf_same, xq_ff, xq_fo, xf_1, xf_2, xs_1, xs_2, xs_same, xq_so, xj_1, xj_2, xj_same, xq_jo, xq_sa1, xq_same, xq_other, upd_s, oI_n, oI_s, o2]
      refine by_ic_ge 88 rfl ?_
      simp (disch := first | exact Nat.ne_of_beq_eq_false rfl | exact rfl | omega) only [nI_add, xa_sub, xa_mul, pk_div, nm_mod, xa_shr, xa_and7, xa_and1, xa_and255, xa_by_and, nI_m1, Nat.add_sub_cancel, Nat.reducePow, Nat.zero_add, Nat.add_zero, Nat.reduceAdd, Nat.reduceMul, Nat.reduceSub, xf_same, xq_ff, xq_fo, xf_1, xf_2, xs_1, xs_2, xs_same, xq_so, xj_1, xj_2, xj_same, xq_jo, xq_sa1, xq_same, xq_other, upd_s, oI_n, oI_s, xv_0, xv_1, xv_2, xv_3, xm_p1, xm_p2, xq_fp, xq_fn, List.filter_nil, Nat.reduceBEq, Bool.not_true, Bool.not_false, Bool.and_true, Bool.and_false, Bool.false_and, Bool.true_and, if_true, if_false, Bool.false_eq_true, reduceIte, xc_i, xc_j, xc_r, xc_n, List.nil_append, List.cons_append, Option.toList_some, Option.toList_none, nI_ltJ, nI_leJ, nI_eqJ, nI_ltz, nI_gez, nI_gtz, nI_lez, nI_eqz, m1_ltz, m1_gez, true_imp_iff, false_imp_iff, true_and, and_true, ne_eq, not_false_eq_true, not_true_eq_false, Nat.reduceEqDiff, Nat.reduceLT, Nat.reduceLeDiff, o2]
      refine ⟨fun c => absurd c (by omega), fun c13 => ?_⟩
      with_reducible refine xm_go_blk b_X12_tellsBits_21 k_X12_tellsBits_21 ?_
      refine by_iconst ci_0 ?_
      refine by_istore (by rw [ml_307]; decide) ?_
      refine by_bipush cb_8 ?_
      refine by_iload_n rfl ?_
      refine by_imul ?_
      refine by_istore (by rw [ml_307]; decide) ?_
      refine by_nil ?_
      try simp (disch := first | exact Nat.ne_of_beq_eq_false rfl | exact rfl | omega) only [nI_add, xa_sub, xa_mul, pk_div, nm_mod, xa_shr, xa_and7, xa_and1, xa_and255, xa_by_and, nI_m1, Nat.add_sub_cancel, Nat.reducePow, Nat.zero_add, Nat.add_zero, Nat.reduceAdd, Nat.reduceMul, Nat.reduceSub, xf_same, xq_ff, xq_fo, xf_1, xf_2, xs_1, xs_2, xs_same, xq_so, xj_1, xj_2, xj_same, xq_jo, xq_sa1, xq_same, xq_other, upd_s, oI_n, oI_s, xv_0, xv_1, xv_2, xv_3, xm_p1, xm_p2, xq_fp, xq_fn, List.filter_nil, Nat.reduceBEq, Bool.not_true, Bool.not_false, Bool.and_true, Bool.and_false, Bool.false_and, Bool.true_and, if_true, if_false, Bool.false_eq_true, reduceIte, xc_i, xc_j, xc_r, xc_n, List.nil_append, List.cons_append, Option.toList_some, Option.toList_none, o2]
      exact xm_go_wk (by simp [Value.category, pkP]) (inner 8 0 (by omega))
  refine xq_in rfl ?_
  simp only [xq_a0, xq_aI, xq_aJ, xq_aR, Nat.reduceAdd]
  with_reducible refine xm_go_blk b_X12_tellsBits_0 k_X12_tellsBits_0 ?_
  refine by_aload_n rfl ?_
  refine by_iload_n rfl ?_
  refine by_bipush cb_7 ?_
  refine by_iadd ?_
  refine by_bipush cb_8 ?_
  refine by_idiv (by first | decide | assumption) ?_
  refine by_putf cn_307 fl_12_220 (by first | exact rfl | assumption) (by decide) nf_12_4 ft_12_4 (by first | rfl | assumption) (by first | rfl | assumption) ?_
  refine by_iconst ci_0 ?_
  refine by_istore_n (by rw [ml_307]; decide) ?_
  refine by_nil ?_
  try simp (disch := first | exact Nat.ne_of_beq_eq_false rfl | exact rfl | omega) only [nI_add, xa_sub, xa_mul, pk_div, nm_mod, xa_shr, xa_and7, xa_and1, xa_and255, xa_by_and, nI_m1, Nat.add_sub_cancel, Nat.reducePow, Nat.zero_add, Nat.add_zero, Nat.reduceAdd, Nat.reduceMul, Nat.reduceSub, xf_same, xq_ff, xq_fo, xf_1, xf_2, xs_1, xs_2, xs_same, xq_so, xj_1, xj_2, xj_same, xq_jo, xq_sa1, xq_same, xq_other, upd_s, oI_n, oI_s, xv_0, xv_1, xv_2, xv_3, xm_p1, xm_p2, xq_fp, xq_fn, List.filter_nil, Nat.reduceBEq, Bool.not_true, Bool.not_false, Bool.and_true, Bool.and_false, Bool.false_and, Bool.true_and, if_true, if_false, Bool.false_eq_true, reduceIte, xc_i, xc_j, xc_r, xc_n, List.nil_append, List.cons_append, Option.toList_some, Option.toList_none]
  exact xm_go_wk (by simp [Value.category]) (key ((n + 7) / 8) 0 _ (by omega) (Fr_sf Fr_rf (by simp)) (by simp only [xf_same]) (fun i hi => absurd hi (Nat.not_lt_zero _)))
end PB
