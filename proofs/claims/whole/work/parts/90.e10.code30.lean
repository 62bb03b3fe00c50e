/-! ===== the machine works definitions of jets ===== -/
theorem rd_seg (u : Nat → Bool) {n p k : Nat} (h : p + k ≤ n) : ((mc_rd u 0 n).drop p).take k = mc_rd u p k := by
  have e1 := mc_rd_add u 0 p (n - p)
  have e2 := mc_rd_add u (0 + p) k (n - p - k)
  rw [show p + (n - p) = n by omega] at e1
  rw [show k + (n - p - k) = n - p by omega] at e2
  rw [e1, li_da (by rw [mc_rd_len]), e2, li_ka (by rw [mc_rd_len]), Nat.zero_add]
theorem rd_take (u : Nat → Bool) {n k : Nat} (h : k ≤ n) : (mc_rd u 0 n).take k = mc_rd u 0 k := by
  have := rd_seg u (n := n) (p := 0) (k := k) (by omega)
  rw [List.drop_zero] at this
  exact this
def gA (Q : mc_A) (G : Nat → gN) : mc_A := (fun n => if n < 400 then mc_op Q n else g_o (G n), fun n => if n < 400 then mc_on Q n else g_a (G n), fun n => if n < 400 then mc_tw Q n else g_b (G n), fun n => if n < 400 then mc_sk Q n else g_k (G n), fun n => if n < 400 then mc_ot Q n else g_l (G n))
def gMW (W : mc_W) (G : Nat → gN) : mc_W := (fun n => if n < 400 then w_s W n else g_s (G n), fun n => if n < 400 then w_t W n else g_t (G n), fun n => if n < 400 then w_b W n else (g_q (G n)).1, fun n => if n < 400 then w_d W n else (g_q (G n)).2.1, fun n => if n < 400 then w_c W n else (g_q (G n)).2.2, fun n => if n < 400 then w_f W n else (g_q (G n)).2.2, fun n => if n < 400 then 7600 + n else n - 400)
section GA
variable {Q : mc_A} {W : mc_W} {G : Nat → gN} {n : Nat}
theorem gA_o (h : 400 ≤ n) : mc_op (gA Q G) n = g_o (G n) := if_neg (by omega)
theorem gA_a (h : 400 ≤ n) : mc_on (gA Q G) n = g_a (G n) := if_neg (by omega)
theorem gA_b (h : 400 ≤ n) : mc_tw (gA Q G) n = g_b (G n) := if_neg (by omega)
theorem gA_k (h : 400 ≤ n) : mc_sk (gA Q G) n = g_k (G n) := if_neg (by omega)
theorem gA_l (h : 400 ≤ n) : mc_ot (gA Q G) n = g_l (G n) := if_neg (by omega)
theorem gM_s (h : 400 ≤ n) : w_s (gMW W G) n = g_s (G n) := if_neg (by omega)
theorem gM_t (h : 400 ≤ n) : w_t (gMW W G) n = g_t (G n) := if_neg (by omega)
theorem gM_b (h : 400 ≤ n) : w_b (gMW W G) n = (g_q (G n)).1 := if_neg (by omega)
theorem gM_d (h : 400 ≤ n) : w_d (gMW W G) n = (g_q (G n)).2.1 := if_neg (by omega)
theorem gM_c (h : 400 ≤ n) : w_c (gMW W G) n = (g_q (G n)).2.2 := if_neg (by omega)
theorem gM_f (h : 400 ≤ n) : w_f (gMW W G) n = (g_q (G n)).2.2 := if_neg (by omega)
theorem gM_r (h : 400 ≤ n) : w_r (gMW W G) n = n - 400 := if_neg (by omega)
theorem gA_lo (h : n < 400) : mc_op (gA Q G) n = mc_op Q n ∧ mc_on (gA Q G) n = mc_on Q n ∧ mc_tw (gA Q G) n = mc_tw Q n ∧ mc_sk (gA Q G) n = mc_sk Q n ∧ mc_ot (gA Q G) n = mc_ot Q n := ⟨if_pos h, if_pos h, if_pos h, if_pos h, if_pos h⟩
theorem gM_lo (h : n < 400) : w_s (gMW W G) n = w_s W n ∧ w_t (gMW W G) n = w_t W n ∧ w_b (gMW W G) n = w_b W n ∧ w_d (gMW W G) n = w_d W n ∧ w_c (gMW W G) n = w_c W n ∧ w_f (gMW W G) n = w_f W n ∧ w_r (gMW W G) n = 7600 + n := ⟨if_pos h, if_pos h, if_pos h, if_pos h, if_pos h, if_pos h, if_pos h⟩
end GA
/-- what a definition's node gives -/
theorem ev_def {Q : mc_A} {G : Nat → gN} {c : Nat} {jf : Nat → (Nat → Bool) → Option mc_V} {wb : Nat → Bool} (hI : ∀ n, 400 ≤ n → n < c → gW G n (G n)) : ∀ (f n : Nat), 400 ≤ n → n < c → n < 400 + f → ∀ u, ∃ s c' g, mc_ev (gA Q G) jf wb f n u = some (g_F (G n) (mc_rd u 0 (g_s (G n))), s, c', g) := by
  intro f
  induction f with
  | zero => intro n h1 h2 h3; omega
  | succ f ih =>
    intro n h4 hn hf u
    obtain ⟨w1, w2, w3, w4, w5, w6, w7, c0, c1, c2, c3, c6, c7, c8⟩ := hI n h4 hn
    have hx := mc_rd_len u 0 (g_s (G n))
    rcases w7 with e | e | e | e | e | e | e | e
    · obtain ⟨a1, a2, a3, a4, a5, a6, _, a8⟩ := c0 e
      obtain ⟨s1, k1, g1, r1⟩ := ih _ a1.1 (by have := a1.2; omega) (by have := a1.2; omega) u
      obtain ⟨s2, k2, g2, r2⟩ := ih _ a2.1 (by have := a2.2; omega) (by have := a2.2; omega) (mc_ex (g_F (G (g_a (G n))) (mc_rd u 0 (g_s (G (g_a (G n)))))))
      have hl := (hI _ a1.1 (by have := a1.2; omega)).1 (mc_rd u 0 (g_s (G (g_a (G n))))) (mc_rd_len _ _ _)
      rw [mc_rd_ex (by omega), List.drop_zero, li_kw (by omega)] at r2
      refine ⟨1 + s1 + s2, g_k (G n) + max k1 k2, 1 + max g1 g2, ?_⟩
      simp only [mc_ev, gA_o h4, e, gA_a h4, gA_b h4, gA_k h4, r1, r2]
      rw [a8 _ hx, rd_take u a3]
    · obtain ⟨a1, a2, k1, k2, a3, a4, a5, a6, _, a8⟩ := c1 e
      have hu : (mc_rd u 0 (g_s (G n))).getD 0 false = u 0 := by rw [mc_rd_get _ _ (by omega)]
      by_cases hu0 : u 0 = false
      · obtain ⟨s1, k1', g1, r1⟩ := ih _ a1.1 (by have := a1.2; omega) (by have := a1.2; omega) (mc_sh u 1)
        refine ⟨1 + s1, k1', g1, ?_⟩
        simp only [mc_ev, gA_o h4, e, gA_a h4, gA_k h4, k1, if_pos hu0, r1]
        rw [a8 _ hx, hu, if_pos hu0, rd_seg u a3, mc_rd_sh]
      · obtain ⟨s1, k1', g1, r1⟩ := ih _ a2.1 (by have := a2.2; omega) (by have := a2.2; omega) (mc_sh u 1)
        refine ⟨1 + s1, k1', g1, ?_⟩
        simp only [mc_ev, gA_o h4, e, gA_b h4, gA_l h4, k2, if_neg hu0, r1]
        rw [a8 _ hx, hu, if_neg hu0, rd_seg u a4, mc_rd_sh]
    · obtain ⟨a1, a2, a3, a4, a5, a6, _, a8⟩ := c2 e
      obtain ⟨s1, k1, g1, r1⟩ := ih _ a1.1 (by have := a1.2; omega) (by have := a1.2; omega) u
      obtain ⟨s2, k2, g2, r2⟩ := ih _ a2.1 (by have := a2.2; omega) (by have := a2.2; omega) u
      refine ⟨1 + s1 + s2, max k1 k2, max g1 g2, ?_⟩
      simp only [mc_ev, gA_o h4, e, gA_a h4, gA_b h4, r1, r2]
      rw [a8 _ hx, rd_take u a3, rd_take u a4]
    · obtain ⟨a1, a3, a4, _, a8⟩ := c3 (Or.inl e)
      obtain ⟨s1, k1, g1, r1⟩ := ih _ a1.1 (by have := a1.2; omega) (by have := a1.2; omega) u
      refine ⟨1 + s1, k1, g1, ?_⟩
      simp only [mc_ev, gA_o h4, e, gA_a h4, gA_k h4, r1]
      rw [a8 _ hx, rd_take u a3, e]
      rfl
    · obtain ⟨a1, a3, a4, _, a8⟩ := c3 (Or.inr e)
      obtain ⟨s1, k1, g1, r1⟩ := ih _ a1.1 (by have := a1.2; omega) (by have := a1.2; omega) u
      refine ⟨1 + s1, k1, g1, ?_⟩
      simp only [mc_ev, gA_o h4, e, gA_a h4, gA_k h4, r1]
      rw [a8 _ hx, rd_take u a3, e]
      rfl
    · obtain ⟨a1, a3, a4, _, a8⟩ := c6 e
      obtain ⟨s1, k1, g1, r1⟩ := ih _ a1.1 (by have := a1.2; omega) (by have := a1.2; omega) (mc_sh u (g_k (G n)))
      refine ⟨1 + s1, k1, g1, ?_⟩
      simp only [mc_ev, gA_o h4, e, gA_a h4, gA_k h4, r1]
      rw [a8 _ hx, rd_seg u a3, mc_rd_sh]
      rfl
    · obtain ⟨a3, a4, a8⟩ := c7 e
      refine ⟨1 + g_k (G n), 0, 0, ?_⟩
      simp only [mc_ev, gA_o h4, e, gA_k h4, gA_l h4]
      rw [a8 _ hx, rd_seg u a3]
    · have a4 := c8 e
      have hl := w1 _ hx
      rw [a4] at hl
      refine ⟨1, 0, 0, ?_⟩
      simp only [mc_ev, gA_o h4, e]
      rw [List.eq_nil_of_length_eq_zero hl]
section BD
variable {sc : xm_Sc} {d pp df c : Nat} {Q : mc_A} {W : mc_W} {G : Nat → gN} {H0 : xm_H} {post : xm_Po} {l : List Nat} {jf : Nat → (Nat → Bool) → Option mc_V}
theorem bg_def (hpp : pp = 52 ∨ pp = 77) (hl : rowIs H0 (pp + 12) (pp + 13) l) (hI : gI H0 G c) : ∀ n, 400 ≤ n → n < c → Bg sc d pp df (gMW W G) H0 post n (mc_ev (gA Q G) jf (byB l) 7600 n) ∧ Lr (gMW W G) n (mc_ev (gA Q G) jf (byB l) 7600 n) := by
  obtain ⟨i1, i2, i3, i4⟩ := hI
  intro n h4 hn
  have hop : ∀ n, 400 ≤ n ∧ n < c → mc_op (gA Q G) n ≤ 8 := fun n hn => by rw [gA_o hn.1]; exact (gW_b (i4 n hn.1 hn.2).1).2.2.2.2.2
  refine bg_all (X := fun n => 400 ≤ n ∧ n < c) hpp hl (fun n x hn hch => ?_) (fun n hn => ?_) (fun n hn => ?_) (fun n hn => Nat.le_trans (hop n hn) (by decide)) (fun n hn e => absurd e (by have := hop n hn; omega)) 7600 n ⟨h4, hn⟩ (by rw [gM_r h4]; omega)
  · obtain ⟨w1, w2, w3, w4, w5, w6, w7, c0, c1, c2, c3, c6, c7, c8⟩ := (i4 n hn.1 hn.2).1
    have key : gCh n x → (400 ≤ x ∧ x < c) ∧ w_r (gMW W G) x < w_r (gMW W G) n := fun hx => by
      have h1 := hx.1
      have h2 := hx.2
      have h3 := hn.2
      refine ⟨⟨h1, by omega⟩, ?_⟩
      rw [gM_r h1, gM_r hn.1]
      omega
    unfold mc_ch at hch
    rw [gA_o hn.1, gA_a hn.1, gA_b hn.1] at hch
    apply key
    rcases hch with ⟨h1, rfl⟩ | ⟨h1, rfl⟩
    · rcases w7 with e | e | e | e | e | e | e | e
      · exact (c0 e).1
      · exact (c1 e).1
      · exact (c2 e).1
      · exact (c3 (Or.inl e)).1
      · exact (c3 (Or.inr e)).1
      · exact (c6 e).1
      · omega
      · omega
    · rcases w7 with e | e | e | e | e | e | e | e
      · exact (c0 e).2.1
      · exact (c1 e).2.1
      · exact (c2 e).2.1
      all_goals omega
  · obtain ⟨w, r⟩ := i4 n hn.1 hn.2
    obtain ⟨r1, r2, r3, r4, r5, r6, r7⟩ := r
    obtain ⟨b1, b2, b3, b4, b5, b6⟩ := gW_b w
    have hn2 := hn.2
    refine ⟨by omega, by rw [gA_o hn.1]; exact r1, by rw [gA_k hn.1]; exact r4, by rw [gA_l hn.1]; exact r5, fun z => by rw [gA_o hn.1] at z; rw [gA_a hn.1]; exact r2 z, fun z => by rw [gA_o hn.1] at z; rw [gA_b hn.1]; exact r3 z, by rw [gA_k hn.1]; omega, by rw [gA_l hn.1]; omega⟩
  · obtain ⟨w1, w2, w3, w4, w5, w6, w7, c0, c1, c2, c3, c6, c7, c8⟩ := (i4 n hn.1 hn.2).1
    have h4 := hn.1
    unfold mc_wy mc_cw mc_c1
    simp only [gA_o h4, gA_a h4, gA_b h4, gA_k h4, gA_l h4, gM_s h4, gM_t h4, gM_b h4, gM_d h4, gM_c h4, gM_f h4, gM_r h4]
    refine ⟨fun e => ?_, fun e => ?_, fun e => ?_, fun e => ?_, fun e => absurd e (by omega), fun e => ?_, fun e => ?_, fun e => ?_, fun e => absurd e (by omega), w4, by have := hn.2; omega⟩
    · obtain ⟨a1, a2, a3, a4, a5, a6, a7, _⟩ := c0 e
      obtain ⟨q1, q2, q3⟩ := a7
      simp only [gM_s a1.1, gM_t a1.1, gM_b a1.1, gM_d a1.1, gM_c a1.1, gM_f a1.1, gM_s a2.1, gM_t a2.1, gM_b a2.1, gM_d a2.1, gM_c a2.1, gM_f a2.1]
      simp only [qC] at q1 q2 q3
      refine ⟨?_, ?_, ?_, ?_, ?_, ?_, ?_, ?_, ?_, ?_, ?_⟩ <;> omega
    · obtain ⟨a1, a2, k1, k2, a3, a4, a5, a6, a7, _⟩ := c1 e
      obtain ⟨q1, q2, q3⟩ := a7
      simp only [gM_s a1.1, gM_t a1.1, gM_b a1.1, gM_d a1.1, gM_c a1.1, gM_f a1.1, gM_s a2.1, gM_t a2.1, gM_b a2.1, gM_d a2.1, gM_c a2.1, gM_f a2.1]
      simp only [qH] at q1 q2 q3
      refine ⟨by omega, Or.inl ⟨?_, ?_, ?_, ?_, ?_, ?_⟩, Or.inl ⟨?_, ?_, ?_, ?_, ?_, ?_⟩⟩ <;> omega
    · obtain ⟨a1, a2, a3, a4, a5, a6, a7, _⟩ := c2 e
      obtain ⟨q1, q2, q3⟩ := a7
      simp only [gM_s a1.1, gM_t a1.1, gM_b a1.1, gM_d a1.1, gM_c a1.1, gM_f a1.1, gM_s a2.1, gM_t a2.1, gM_b a2.1, gM_d a2.1, gM_c a2.1, gM_f a2.1]
      simp only [qP] at q1 q2 q3
      refine ⟨?_, ?_, ?_, ?_, ?_, ?_, ?_, ?_, ?_, ?_, ?_⟩ <;> omega
    · obtain ⟨a1, a3, a4, a7, _⟩ := c3 e
      obtain ⟨q1, q2, q3⟩ := a7
      simp only [gM_s a1.1, gM_t a1.1, gM_b a1.1, gM_d a1.1, gM_c a1.1, gM_f a1.1]
      simp only [qD] at q1 q2 q3
      refine ⟨?_, ?_, ?_, ?_, ?_, ?_⟩ <;> omega
    · obtain ⟨a1, a3, a4, a7, _⟩ := c6 e
      obtain ⟨q1, q2, q3⟩ := a7
      simp only [gM_s a1.1, gM_t a1.1, gM_b a1.1, gM_d a1.1, gM_c a1.1, gM_f a1.1]
      simp only [qD] at q1 q2 q3
      refine ⟨?_, ?_, ?_, ?_, ?_, ?_⟩ <;> omega
    · exact ⟨(c7 e).1, (c7 e).2.1⟩
    · exact c8 e
/-- a JET, by its definition -/
theorem bg_jet1 {A : mc_A} {w : mc_W} {n p num : Nat} {rx : (Nat → Bool) → Option mc_V} (hc : cdN H0 A n) (he : mc_op A n = 12) (ek : mc_sk A n = num) (hnum : num < 168) (hdef : H0.1 28 num = nI p) (hx : Bg sc d pp 1 w H0 post p rx) (lx : Lr w p rx)
    (a1 : w_s w p ≤ w_s w n) (a2 : w_t w n = w_t w p) (a3 : 1 + w_b w p ≤ w_b w n) (a4 : w_d w p ≤ w_d w n) (a5 : w_c w p ≤ w_c w n) (a6 : w_f w p ≤ w_f w n) (a12 : w_r w p < w_r w n) :
    Bg sc d pp 1 w H0 post n (fun u => match rx u with
      | some (a, s1, c1, g1) => some (a, 1 + s1, c1, g1)
      | none => none) := by
  intro h f t b g K pc pf sp tn kk hF hf hN hS q1 q2 q3 q4 q5 q6 q7 q8 q8b q9 q10 q11 hyes hno
  obtain ⟨v1, v2, v3, v4, v5, v6, v7, v8⟩ := cdN_fr hc hf
  rw [he] at v2
  rw [ek] at v3 v7
  have hd2 : h.1 28 num = nI p := by rw [hf.1 28 (by simp [mcR])]; exact hdef
  obtain ⟨n1, n2, n3, n4, n5⟩ := hN
  have s5 := hS.2.2.2.2
  obtain ⟨s1, s2, s3, s4, _⟩ := hS
  unfold Fw
  with_reducible refine xm_go_blk b_X4_follow_2 k_X4_follow_2 ?_
  refine by_iload_n rfl ?_
  refine by_sipush cs_8000 ?_
  refine by_ic_ge 466 rfl ?_
  simp (disch := first | exact Nat.ne_of_beq_eq_false rfl | exact rfl | omega) only [nI_add, xa_sub, xa_mul, pk_div, nm_mod, xa_shr, xa_and7, xa_and1, xa_and255, xa_by_and, nI_m1, Nat.add_sub_cancel, Nat.reducePow, Nat.zero_add, Nat.add_zero, Nat.reduceAdd, Nat.reduceMul, Nat.reduceSub, xf_same, xq_ff, xq_fo, xf_1, xf_2, xs_1, xs_2, xs_same, xq_so, xj_1, xj_2, xj_same, xq_jo, xq_sa1, xq_same, xq_other, upd_s, oI_n, oI_s, xv_0, xv_1, xv_2, xv_3, xm_p1, xm_p2, xq_fp, xq_fn, List.filter_nil, Nat.reduceBEq, Bool.not_true, Bool.not_false, Bool.and_true, Bool.and_false, Bool.false_and, Bool.true_and, if_true, if_false, Bool.false_eq_true, reduceIte, xc_i, xc_j, xc_r, xc_n, List.nil_append, List.cons_append, Option.toList_some, Option.toList_none, nI_ltJ, nI_leJ, nI_eqJ, nI_ltz, nI_gez, nI_gtz, nI_lez, nI_eqz, m1_ltz, m1_gez, true_imp_iff, false_imp_iff, true_and, and_true, ne_eq, not_false_eq_true, not_true_eq_false, Nat.reduceEqDiff, Nat.reduceLT, Nat.reduceLeDiff, xf_32_2 hF, xf_22_3 hF, n1, v3, s5, lN_pl, xf_22_0 hF, v2, xf_22_5 hF, hd2]
  refine ⟨fun c => absurd c (by omega), fun c2 => ?_⟩
  with_reducible refine xm_go_blk b_X4_follow_9 k_X4_follow_9 ?_
  refine by_aload_n rfl ?_
  refine by_getf cn_82 fl_4_38 (by first | exact rfl | assumption) (by decide) ?_
  simp (disch := first | exact Nat.ne_of_beq_eq_false rfl | exact rfl | omega) only [nI_add, xa_sub, xa_mul, pk_div, nm_mod, xa_shr, xa_and7, xa_and1, xa_and255, xa_by_and, nI_m1, Nat.add_sub_cancel, Nat.reducePow, Nat.zero_add, Nat.add_zero, Nat.reduceAdd, Nat.reduceMul, Nat.reduceSub, xf_same, xq_ff, xq_fo, xf_1, xf_2, xs_1, xs_2, xs_same, xq_so, xj_1, xj_2, xj_same, xq_jo, xq_sa1, xq_same, xq_other, upd_s, oI_n, oI_s, xf_32_2 hF, xf_22_3 hF, n1, v3, s5, lN_pl, xf_22_0 hF, v2, xf_22_5 hF, hd2]
  refine by_getf cn_82 fl_4_129 (by first | exact rfl | assumption) (by decide) ?_
  refine by_aload_n rfl ?_
  refine by_getf cn_82 fl_4_110 (by first | exact rfl | assumption) (by decide) ?_
  simp (disch := first | exact Nat.ne_of_beq_eq_false rfl | exact rfl | omega) only [nI_add, xa_sub, xa_mul, pk_div, nm_mod, xa_shr, xa_and7, xa_and1, xa_and255, xa_by_and, nI_m1, Nat.add_sub_cancel, Nat.reducePow, Nat.zero_add, Nat.add_zero, Nat.reduceAdd, Nat.reduceMul, Nat.reduceSub, xf_same, xq_ff, xq_fo, xf_1, xf_2, xs_1, xs_2, xs_same, xq_so, xj_1, xj_2, xj_same, xq_jo, xq_sa1, xq_same, xq_other, upd_s, oI_n, oI_s, xf_32_2 hF, xf_22_3 hF, n1, v3, s5, lN_pl, xf_22_0 hF, v2, xf_22_5 hF, hd2]
  first | refine by_iald (by first | exact rfl | assumption | exact ps_1 hpp | exact ps_2 hpp | exact ps_3 hpp | exact ps_4 hpp | exact ps_5 hpp | exact ps_6 hpp | exact ps_7 hpp | exact ps_8 hpp | exact ps_9 hpp | exact ps_10 hpp | exact ps_11 hpp | exact ps_15 hpp | exact ps_16 hpp | exact ps_17 hpp | exact ps_18 hpp | exact ps_19 hpp | exact ps_21 hpp | exact ps_22 hpp | exact ps_23 hpp | exact ps_24 hpp) ⟨by omega, by omega⟩ ?_ | refine by_tald rfl rfl ⟨by omega, by omega⟩ ?_
  refine by_istore (by rw [ml_82]; decide) ?_
  refine by_aload_n rfl ?_
  refine by_dup rfl ?_
  refine by_getf cn_82 fl_4_42 (by first | exact rfl | assumption) (by decide) ?_
  refine by_lconst cl_1 ?_
  simp (disch := first | exact Nat.ne_of_beq_eq_false rfl | exact rfl | omega) only [nI_add, xa_sub, xa_mul, pk_div, nm_mod, xa_shr, xa_and7, xa_and1, xa_and255, xa_by_and, nI_m1, Nat.add_sub_cancel, Nat.reducePow, Nat.zero_add, Nat.add_zero, Nat.reduceAdd, Nat.reduceMul, Nat.reduceSub, xf_same, xq_ff, xq_fo, xf_1, xf_2, xs_1, xs_2, xs_same, xq_so, xj_1, xj_2, xj_same, xq_jo, xq_sa1, xq_same, xq_other, upd_s, oI_n, oI_s, xf_32_2 hF, xf_22_3 hF, n1, v3, s5, lN_pl, xf_22_0 hF, v2, xf_22_5 hF, hd2]
  refine by_ladd ?_
  refine by_putf cn_82 fl_4_42 (by first | exact rfl | assumption) (by decide) nf_4_16 ft_4_16 (by first | rfl | assumption) (by first | rfl | assumption) ?_
  refine by_aload_n rfl ?_
  refine by_getf cn_82 fl_4_38 (by first | exact rfl | assumption) (by decide) ?_
  simp (disch := first | exact Nat.ne_of_beq_eq_false rfl | exact rfl | omega) only [nI_add, xa_sub, xa_mul, pk_div, nm_mod, xa_shr, xa_and7, xa_and1, xa_and255, xa_by_and, nI_m1, Nat.add_sub_cancel, Nat.reducePow, Nat.zero_add, Nat.add_zero, Nat.reduceAdd, Nat.reduceMul, Nat.reduceSub, xf_same, xq_ff, xq_fo, xf_1, xf_2, xs_1, xs_2, xs_same, xq_so, xj_1, xj_2, xj_same, xq_jo, xq_sa1, xq_same, xq_other, upd_s, oI_n, oI_s, xf_32_2 hF, xf_22_3 hF, n1, v3, s5, lN_pl, xf_22_0 hF, v2, xf_22_5 hF, hd2]
  refine by_getf cn_82 fl_4_132 (by first | exact rfl | assumption) (by decide) ?_
  refine by_aload_n rfl ?_
  refine by_getf cn_82 fl_4_110 (by first | exact rfl | assumption) (by decide) ?_
  simp (disch := first | exact Nat.ne_of_beq_eq_false rfl | exact rfl | omega) only [nI_add, xa_sub, xa_mul, pk_div, nm_mod, xa_shr, xa_and7, xa_and1, xa_and255, xa_by_and, nI_m1, Nat.add_sub_cancel, Nat.reducePow, Nat.zero_add, Nat.add_zero, Nat.reduceAdd, Nat.reduceMul, Nat.reduceSub, xf_same, xq_ff, xq_fo, xf_1, xf_2, xs_1, xs_2, xs_same, xq_so, xj_1, xj_2, xj_same, xq_jo, xq_sa1, xq_same, xq_other, upd_s, oI_n, oI_s, xf_32_2 hF, xf_22_3 hF, n1, v3, s5, lN_pl, xf_22_0 hF, v2, xf_22_5 hF, hd2]
  first | refine by_iald (by first | exact rfl | assumption | exact ps_1 hpp | exact ps_2 hpp | exact ps_3 hpp | exact ps_4 hpp | exact ps_5 hpp | exact ps_6 hpp | exact ps_7 hpp | exact ps_8 hpp | exact ps_9 hpp | exact ps_10 hpp | exact ps_11 hpp | exact ps_15 hpp | exact ps_16 hpp | exact ps_17 hpp | exact ps_18 hpp | exact ps_19 hpp | exact ps_21 hpp | exact ps_22 hpp | exact ps_23 hpp | exact ps_24 hpp) ⟨by omega, by omega⟩ ?_ | refine by_tald rfl rfl ⟨by omega, by omega⟩ ?_
  simp (disch := first | exact Nat.ne_of_beq_eq_false rfl | exact rfl | omega) only [nI_add, xa_sub, xa_mul, pk_div, nm_mod, xa_shr, xa_and7, xa_and1, xa_and255, xa_by_and, nI_m1, Nat.add_sub_cancel, Nat.reducePow, Nat.zero_add, Nat.add_zero, Nat.reduceAdd, Nat.reduceMul, Nat.reduceSub, xf_same, xq_ff, xq_fo, xf_1, xf_2, xs_1, xs_2, xs_same, xq_so, xj_1, xj_2, xj_same, xq_jo, xq_sa1, xq_same, xq_other, upd_s, oI_n, oI_s, xf_32_2 hF, xf_22_3 hF, n1, v3, s5, lN_pl, xf_22_0 hF, v2, xf_22_5 hF, hd2]
  refine by_sw ?_
  simp (disch := first | exact Nat.ne_of_beq_eq_false rfl | exact rfl | omega) only [nI_add, xa_sub, xa_mul, pk_div, nm_mod, xa_shr, xa_and7, xa_and1, xa_and255, xa_by_and, nI_m1, Nat.add_sub_cancel, Nat.reducePow, Nat.zero_add, Nat.add_zero, Nat.reduceAdd, Nat.reduceMul, Nat.reduceSub, xf_same, xq_ff, xq_fo, xf_1, xf_2, xs_1, xs_2, xs_same, xq_so, xj_1, xj_2, xj_same, xq_jo, xq_sa1, xq_same, xq_other, upd_s, oI_n, oI_s, xv_0, xv_1, xv_2, xv_3, xm_p1, xm_p2, xq_fp, xq_fn, List.filter_nil, Nat.reduceBEq, Bool.not_true, Bool.not_false, Bool.and_true, Bool.and_false, Bool.false_and, Bool.true_and, if_true, if_false, Bool.false_eq_true, reduceIte, xc_i, xc_j, xc_r, xc_n, List.nil_append, List.cons_append, Option.toList_some, Option.toList_none, xf_32_2 hF, xf_22_3 hF, n1, v3, s5, lN_pl, xf_22_0 hF, v2, xf_22_5 hF, hd2]
  refine xq_sw 389 (by decide) (by decide) ?_
  with_reducible refine xm_go_blk b_X4_follow_389 k_X4_follow_389 ?_
  refine by_iload_n rfl ?_
  refine by_if_ne 435 rfl ?_
  simp (disch := first | exact Nat.ne_of_beq_eq_false rfl | exact rfl | omega) only [nI_add, xa_sub, xa_mul, pk_div, nm_mod, xa_shr, xa_and7, xa_and1, xa_and255, xa_by_and, nI_m1, Nat.add_sub_cancel, Nat.reducePow, Nat.zero_add, Nat.add_zero, Nat.reduceAdd, Nat.reduceMul, Nat.reduceSub, xf_same, xq_ff, xq_fo, xf_1, xf_2, xs_1, xs_2, xs_same, xq_so, xj_1, xj_2, xj_same, xq_jo, xq_sa1, xq_same, xq_other, upd_s, oI_n, oI_s, xv_0, xv_1, xv_2, xv_3, xm_p1, xm_p2, xq_fp, xq_fn, List.filter_nil, Nat.reduceBEq, Bool.not_true, Bool.not_false, Bool.and_true, Bool.and_false, Bool.false_and, Bool.true_and, if_true, if_false, Bool.false_eq_true, reduceIte, xc_i, xc_j, xc_r, xc_n, List.nil_append, List.cons_append, Option.toList_some, Option.toList_none, nI_ltJ, nI_leJ, nI_eqJ, nI_ltz, nI_gez, nI_gtz, nI_lez, nI_eqz, m1_ltz, m1_gez, true_imp_iff, false_imp_iff, true_and, and_true, ne_eq, not_false_eq_true, not_true_eq_false, Nat.reduceEqDiff, Nat.reduceLT, Nat.reduceLeDiff, xf_32_2 hF, xf_22_3 hF, n1, v3, s5, lN_pl, xf_22_0 hF, v2, xf_22_5 hF, hd2]
  with_reducible refine xm_go_blk b_X4_follow_435 k_X4_follow_435 ?_
  refine by_aload_n rfl ?_
  refine by_aload_n rfl ?_
  refine by_getf cn_82 fl_4_38 (by first | exact rfl | assumption) (by decide) ?_
  simp (disch := first | exact Nat.ne_of_beq_eq_false rfl | exact rfl | omega) only [nI_add, xa_sub, xa_mul, pk_div, nm_mod, xa_shr, xa_and7, xa_and1, xa_and255, xa_by_and, nI_m1, Nat.add_sub_cancel, Nat.reducePow, Nat.zero_add, Nat.add_zero, Nat.reduceAdd, Nat.reduceMul, Nat.reduceSub, xf_same, xq_ff, xq_fo, xf_1, xf_2, xs_1, xs_2, xs_same, xq_so, xj_1, xj_2, xj_same, xq_jo, xq_sa1, xq_same, xq_other, upd_s, oI_n, oI_s, xf_32_2 hF, xf_22_3 hF, n1, v3, s5, lN_pl, xf_22_0 hF, v2, xf_22_5 hF, hd2]
  refine by_getf cn_82 fl_4_156 (by first | exact rfl | assumption) (by decide) ?_
  refine by_iload rfl ?_
  simp (disch := first | exact Nat.ne_of_beq_eq_false rfl | exact rfl | omega) only [nI_add, xa_sub, xa_mul, pk_div, nm_mod, xa_shr, xa_and7, xa_and1, xa_and255, xa_by_and, nI_m1, Nat.add_sub_cancel, Nat.reducePow, Nat.zero_add, Nat.add_zero, Nat.reduceAdd, Nat.reduceMul, Nat.reduceSub, xf_same, xq_ff, xq_fo, xf_1, xf_2, xs_1, xs_2, xs_same, xq_so, xj_1, xj_2, xj_same, xq_jo, xq_sa1, xq_same, xq_other, upd_s, oI_n, oI_s, xf_32_2 hF, xf_22_3 hF, n1, v3, s5, lN_pl, xf_22_0 hF, v2, xf_22_5 hF, hd2]
  first | refine by_iald (by first | exact rfl | assumption | exact ps_1 hpp | exact ps_2 hpp | exact ps_3 hpp | exact ps_4 hpp | exact ps_5 hpp | exact ps_6 hpp | exact ps_7 hpp | exact ps_8 hpp | exact ps_9 hpp | exact ps_10 hpp | exact ps_11 hpp | exact ps_15 hpp | exact ps_16 hpp | exact ps_17 hpp | exact ps_18 hpp | exact ps_19 hpp | exact ps_21 hpp | exact ps_22 hpp | exact ps_23 hpp | exact ps_24 hpp) ⟨by omega, by omega⟩ ?_ | refine by_tald rfl rfl ⟨by omega, by omega⟩ ?_
  refine by_putf cn_82 fl_4_110 (by first | exact rfl | assumption) (by decide) nf_4_11 ft_4_11 (by first | rfl | assumption) (by first | rfl | assumption) ?_
  refine by_goto 460 rfl ?_
  try simp (disch := first | exact Nat.ne_of_beq_eq_false rfl | exact rfl | omega) only [nI_add, xa_sub, xa_mul, pk_div, nm_mod, xa_shr, xa_and7, xa_and1, xa_and255, xa_by_and, nI_m1, Nat.add_sub_cancel, Nat.reducePow, Nat.zero_add, Nat.add_zero, Nat.reduceAdd, Nat.reduceMul, Nat.reduceSub, xf_same, xq_ff, xq_fo, xf_1, xf_2, xs_1, xs_2, xs_same, xq_so, xj_1, xj_2, xj_same, xq_jo, xq_sa1, xq_same, xq_other, upd_s, oI_n, oI_s, xv_0, xv_1, xv_2, xv_3, xm_p1, xm_p2, xq_fp, xq_fn, List.filter_nil, Nat.reduceBEq, Bool.not_true, Bool.not_false, Bool.and_true, Bool.and_false, Bool.false_and, Bool.true_and, if_true, if_false, Bool.false_eq_true, reduceIte, xc_i, xc_j, xc_r, xc_n, List.nil_append, List.cons_append, Option.toList_some, Option.toList_none, xf_32_2 hF, xf_22_3 hF, n1, v3, s5, lN_pl, xf_22_0 hF, v2, xf_22_5 hF, hd2]
  with_reducible refine xm_go_blk b_X4_follow_460 k_X4_follow_460 ?_
  refine by_iinc (by rw [ml_82]; decide) rfl ci_1 ?_
  refine by_goto 2 rfl ?_
  try simp (disch := first | exact Nat.ne_of_beq_eq_false rfl | exact rfl | omega) only [nI_add, xa_sub, xa_mul, pk_div, nm_mod, xa_shr, xa_and7, xa_and1, xa_and255, xa_by_and, nI_m1, Nat.add_sub_cancel, Nat.reducePow, Nat.zero_add, Nat.add_zero, Nat.reduceAdd, Nat.reduceMul, Nat.reduceSub, xf_same, xq_ff, xq_fo, xf_1, xf_2, xs_1, xs_2, xs_same, xq_so, xj_1, xj_2, xj_same, xq_jo, xq_sa1, xq_same, xq_other, upd_s, oI_n, oI_s, xv_0, xv_1, xv_2, xv_3, xm_p1, xm_p2, xq_fp, xq_fn, List.filter_nil, Nat.reduceBEq, Bool.not_true, Bool.not_false, Bool.and_true, Bool.and_false, Bool.false_and, Bool.true_and, if_true, if_false, Bool.false_eq_true, reduceIte, xc_i, xc_j, xc_r, xc_n, List.nil_append, List.cons_append, Option.toList_some, Option.toList_none, xf_32_2 hF, xf_22_3 hF, n1, v3, s5, lN_pl, xf_22_0 hF, v2, xf_22_5 hF, hd2]
  have f1 : Fr mcR mcT h (xm_sf (xm_sf h 32 16 (.long (lN (sp + 1)))) 32 11 (.int (nI p))) := Fr_sf (Fr_sf Fr_rf (by simp [mcT])) (by simp [mcT])
  refine xm_go_wk (by simp [Value.category]) (bg_one (h := h) (n := n) (f := f) (f' := f) (k' := kk + 1) (wr := []) (Fr_tr hf f1 (fun _ z => z) (fun _ z => z)) (Fr_XF hF f1 mcT_fin) ⟨by simp [xm_sf, updV], by rw [← n2]; simp [xm_sf, updV], by show _ = Value.int (nI t); rw [← n3]; simp [xm_sf, updV], by rw [← n4]; simp [xm_sf, updV], by rw [← n5]; simp [xm_sf, updV]⟩ ⟨by rw [← s1]; simp [xm_sf, updV], wtS_o s2 (fun _ _ => ⟨rfl, rfl, rfl, rfl, rfl⟩), by rw [← s3]; simp [xm_sf, updV], by rw [← s4]; simp [xm_sf, updV], by simp [xm_sf, updV]⟩ (by rw [mc_wr_nil]; rfl) hx lx (by omega) (by omega) (by simp; omega) a3 a4 a5 a6 (by omega) q1 q2 q3 q4 q5 q6 q7 q8 q8b q9 q11 (fun a s c e hr h' tn' ht F' f' S' b' o' => hyes a (1 + s) c e (by simp only [hr]) h' tn' ht F' f' S' b' o') (fun hr h' F' f' => hno (by simp only [hr]) h' F' f'))
end BD
