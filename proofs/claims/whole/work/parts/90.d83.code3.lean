/-! ===== definitions of jets: leaves, take, widened, drop ===== -/
theorem li_td {x : List Bool} {s k a : Nat} (h : k + a ≤ s) : ((x.take s).drop k).take a = (x.drop k).take a := by
  rw [List.drop_take, List.take_take, Nat.min_eq_left (by omega)]
theorem li_tt {x : List Bool} {s a : Nat} (h : a ≤ s) : (x.take s).take a = x.take a := by rw [List.take_take, Nat.min_eq_left h]
theorem li_t0 {x : List Bool} {s : Nat} (h : 1 ≤ s) : (x.take s).getD 0 false = x.getD 0 false := by
  obtain ⟨k, rfl⟩ : ∃ k, s = k + 1 := ⟨s - 1, by omega⟩
  cases x <;> simp
section GW
variable {G : Nat → gN} {c a b k l s t : Nat} {F : gFn} {q : gQ}
theorem gW_7 (hs : s ≤ 4000) (hk : l + k ≤ s) (hq : 1 ≤ q.1) (hF : ∀ x, x.length = s → F x = (x.drop l).take k) : gW G c (7, 0, 0, k, l, s, k, F, q) := by
  refine ⟨fun x hx => ?_, hs, ?_, hq, ?_, ?_, ?_, fun e => ?_, fun e => ?_, fun e => ?_, fun e => ?_, fun e => ?_, fun _ => ⟨hk, rfl, hF⟩, fun e => ?_⟩
  · have hx' : x.length = s := hx
    show (F x).length = k
    rw [hF x hx']; simp; omega
  · show k ≤ 4000; omega
  · show k ≤ 4000; omega
  · show l ≤ 4000; omega
  · simp [g_o]
  all_goals simp [g_o] at e
theorem gW_8 (hs : s ≤ 4000) (hq : 1 ≤ q.1) : gW G c (8, 0, 0, 0, 0, s, 0, (fun _ => []), q) := by
  refine ⟨fun x hx => rfl, hs, by show 0 ≤ 4000; omega, hq, by show 0 ≤ 4000; omega, by show 0 ≤ 4000; omega, by simp [g_o], fun e => ?_, fun e => ?_, fun e => ?_, fun e => ?_, fun e => ?_, fun e => ?_, fun e => rfl⟩
  all_goals simp [g_o] at e
theorem gW_6 (hs : s ≤ 4000) (ht : t ≤ 4000) (ha : gCh c a) (h1 : k + g_s (G a) ≤ s) (h2 : g_t (G a) = t) (hq1 : 1 ≤ q.1) (hq : qle (qD (g_q (G a))) q) (hl : ∀ x, x.length = s → (F x).length = t) (hF : ∀ x, x.length = s → F x = g_F (G a) ((x.drop k).take (g_s (G a)))) : gW G c (6, a, 0, k, 0, s, t, F, q) := by
  refine ⟨hl, hs, ht, hq1, by show k ≤ 4000; omega, by show 0 ≤ 4000; omega, by simp [g_o], fun e => ?_, fun e => ?_, fun e => ?_, fun e => ?_, fun e => ⟨ha, h1, h2, hq, hF⟩, fun e => ?_, fun e => ?_⟩
  all_goals simp [g_o] at e
theorem gW_34 {o : Nat} (ho : o = 3 ∨ o = 4) (hs : s ≤ 4000) (ht : t ≤ 4000) (ha : gCh c a) (h1 : g_s (G a) ≤ s) (h2 : 1 + k + g_t (G a) = t) (hq1 : 1 ≤ q.1) (hq : qle (qD (g_q (G a))) q) (hl : ∀ x, x.length = s → (F x).length = t) (hF : ∀ x, x.length = s → F x = (o == 4) :: (List.replicate k false ++ g_F (G a) (x.take (g_s (G a))))) : gW G c (o, a, 0, k, 0, s, t, F, q) := by
  refine ⟨hl, hs, ht, hq1, by show k ≤ 4000; omega, by show 0 ≤ 4000; omega, by show o = 0 ∨ o = 1 ∨ o = 2 ∨ o = 3 ∨ o = 4 ∨ o = 6 ∨ o = 7 ∨ o = 8; omega, fun e => ?_, fun e => ?_, fun e => ?_, fun e => ⟨ha, h1, h2, hq, hF⟩, fun e => ?_, fun e => ?_, fun e => ?_⟩
  all_goals (simp [g_o] at e; omega)
theorem gW_2 (hs : s ≤ 4000) (ht : t ≤ 4000) (ha : gCh c a) (hb : gCh c b) (h1 : g_s (G a) ≤ s) (h2 : g_s (G b) ≤ s) (h3 : g_t (G a) = k) (h4 : k + g_t (G b) = t) (hq1 : 1 ≤ q.1) (hq : qle (qP (g_q (G a)) (g_q (G b))) q) (hl : ∀ x, x.length = s → (F x).length = t) (hF : ∀ x, x.length = s → F x = g_F (G a) (x.take (g_s (G a))) ++ g_F (G b) (x.take (g_s (G b)))) : gW G c (2, a, b, k, 0, s, t, F, q) := by
  refine ⟨hl, hs, ht, hq1, by show k ≤ 4000; omega, by show 0 ≤ 4000; omega, by simp [g_o], fun e => ?_, fun e => ?_, fun e => ⟨ha, hb, h1, h2, h3, h4, hq, hF⟩, fun e => ?_, fun e => ?_, fun e => ?_, fun e => ?_⟩
  all_goals simp [g_o] at e
theorem gW_1 (hs : s ≤ 4000) (ht : t ≤ 4000) (ha : gCh c a) (hb : gCh c b) (h1 : 1 + g_s (G a) ≤ s) (h2 : 1 + g_s (G b) ≤ s) (h3 : g_t (G a) = t) (h4 : g_t (G b) = t) (hq1 : 1 ≤ q.1) (hq : qle (qH (g_q (G a)) (g_q (G b))) q) (hl : ∀ x, x.length = s → (F x).length = t) (hF : ∀ x, x.length = s → F x = if x.getD 0 false = false then g_F (G a) ((x.drop 1).take (g_s (G a))) else g_F (G b) ((x.drop 1).take (g_s (G b)))) : gW G c (1, a, b, 1, 1, s, t, F, q) := by
  refine ⟨hl, hs, ht, hq1, by show 1 ≤ 4000; omega, by show 1 ≤ 4000; omega, by simp [g_o], fun e => ?_, fun e => ⟨ha, hb, rfl, rfl, h1, h2, h3, h4, hq, hF⟩, fun e => ?_, fun e => ?_, fun e => ?_, fun e => ?_, fun e => ?_⟩
  all_goals simp [g_o] at e
theorem gW_0 (hs : s ≤ 4000) (ht : t ≤ 4000) (hk : k ≤ 4000) (ha : gCh c a) (hb : gCh c b) (h1 : g_s (G a) ≤ s) (h2 : g_t (G a) = k) (h3 : g_s (G b) = k) (h4 : g_t (G b) = t) (hq1 : 1 ≤ q.1) (hq : qle (qC k (g_q (G a)) (g_q (G b))) q) (hl : ∀ x, x.length = s → (F x).length = t) (hF : ∀ x, x.length = s → F x = g_F (G b) (g_F (G a) (x.take (g_s (G a))))) : gW G c (0, a, b, k, 0, s, t, F, q) := by
  refine ⟨hl, hs, ht, hq1, hk, by show 0 ≤ 4000; omega, by simp [g_o], fun e => ⟨ha, hb, h1, h2, h3, h4, hq, hF⟩, fun e => ?_, fun e => ?_, fun e => ?_, fun e => ?_, fun e => ?_, fun e => ?_⟩
  all_goals simp [g_o] at e
end GW
/-- a node for a longer row -/
def gWd (N : gN) (s : Nat) : gN := (g_o N, g_a N, g_b N, g_k N, g_l N, s, g_t N, (fun x => g_F N (x.take (g_s N))), g_q N)
theorem gW_wide {G : Nat → gN} {n c s : Nat} (hw : gW G n (G n)) (hn : n < c) (hs : g_s (G n) ≤ s) (h4 : s ≤ 4000) : gW G c (gWd (G n) s) := by
  obtain ⟨w1, w2, w3, w4, w5, w6, w7, c0, c1, c2, c3, c6, c7, c8⟩ := hw
  have hl : ∀ x : List Bool, x.length = s → (x.take (g_s (G n))).length = g_s (G n) := fun x hx => by simp; omega
  refine ⟨fun x hx => w1 _ (hl x hx), h4, w3, w4, w5, w6, w7, fun e => ?_, fun e => ?_, fun e => ?_, fun e => ?_, fun e => ?_, fun e => ?_, c8⟩
  · obtain ⟨a1, a2, a3, a4, a5, a6, a7, a8⟩ := c0 e
    refine ⟨⟨a1.1, Nat.lt_trans a1.2 hn⟩, ⟨a2.1, Nat.lt_trans a2.2 hn⟩, Nat.le_trans a3 hs, a4, a5, a6, a7, fun x hx => ?_⟩
    show g_F (G n) (x.take (g_s (G n))) = g_F (G (g_b (G n))) (g_F (G (g_a (G n))) (x.take (g_s (G (g_a (G n))))))
    rw [a8 _ (hl x hx), li_tt a3]
  · obtain ⟨a1, a2, k1, k2, a3, a4, a5, a6, a7, a8⟩ := c1 e
    refine ⟨⟨a1.1, Nat.lt_trans a1.2 hn⟩, ⟨a2.1, Nat.lt_trans a2.2 hn⟩, k1, k2, Nat.le_trans a3 hs, Nat.le_trans a4 hs, a5, a6, a7, fun x hx => ?_⟩
    show g_F (G n) (x.take (g_s (G n))) = if x.getD 0 false = false then g_F (G (g_a (G n))) ((x.drop 1).take (g_s (G (g_a (G n))))) else g_F (G (g_b (G n))) ((x.drop 1).take (g_s (G (g_b (G n)))))
    rw [a8 _ (hl x hx), li_t0 (by omega), li_td a3, li_td a4]
  · obtain ⟨a1, a2, a3, a4, a5, a6, a7, a8⟩ := c2 e
    refine ⟨⟨a1.1, Nat.lt_trans a1.2 hn⟩, ⟨a2.1, Nat.lt_trans a2.2 hn⟩, Nat.le_trans a3 hs, Nat.le_trans a4 hs, a5, a6, a7, fun x hx => ?_⟩
    show g_F (G n) (x.take (g_s (G n))) = g_F (G (g_a (G n))) (x.take (g_s (G (g_a (G n))))) ++ g_F (G (g_b (G n))) (x.take (g_s (G (g_b (G n)))))
    rw [a8 _ (hl x hx), li_tt a3, li_tt a4]
  · obtain ⟨a1, a3, a4, a5, a8⟩ := c3 e
    refine ⟨⟨a1.1, Nat.lt_trans a1.2 hn⟩, Nat.le_trans a3 hs, a4, a5, fun x hx => ?_⟩
    show g_F (G n) (x.take (g_s (G n))) = (g_o (G n) == 4) :: (List.replicate (g_k (G n)) false ++ g_F (G (g_a (G n))) (x.take (g_s (G (g_a (G n))))))
    rw [a8 _ (hl x hx), li_tt a3]
  · obtain ⟨a1, a3, a4, a5, a8⟩ := c6 e
    refine ⟨⟨a1.1, Nat.lt_trans a1.2 hn⟩, Nat.le_trans a3 hs, a4, a5, fun x hx => ?_⟩
    show g_F (G n) (x.take (g_s (G n))) = g_F (G (g_a (G n))) ((x.drop (g_k (G n))).take (g_s (G (g_a (G n)))))
    rw [a8 _ (hl x hx), li_td a3]
  · obtain ⟨a3, a4, a8⟩ := c7 e
    refine ⟨Nat.le_trans a3 hs, a4, fun x hx => ?_⟩
    show g_F (G n) (x.take (g_s (G n))) = (x.drop (g_l (G n))).take (g_k (G n))
    rw [a8 _ (hl x hx), li_td a3]
theorem cI_mono {h : xm_H} {G : Nat → gN} {c m m' : Nat} {J : List Nat} (hI : cI h G c m J) (h1 : m ≤ m') (h2 : m' ≤ 8000) : cI h G c m' J := ⟨hI.1, hI.2.1, Nat.le_trans hI.2.2.1 h1, h2, hI.2.2.2.2⟩
section CD
variable {sc : xm_Sc} {d c m n s t : Nat} {F : gFn} {q : gQ} {J : List Nat} {G : Nat → gN} {h : xm_H} {post : xm_Po}
/-- what a builder gives -/
abbrev cPo (h : xm_H) (G : Nat → gN) (c m : Nat) (J : List Nat) (s t : Nat) (F : gFn) (q : gQ) (post : xm_Po) : Prop := ∀ h' G' c' n', XF h' → cI h' G' c' m J → cE h G c h' G' c' → nG G' c' n' s t F q → post (some (.int (nI n'))) h'
theorem sp_iden {w : Nat} (hF : XF h) (hI : cI h G c m J) (hm : m + 1 ≤ 8000) (hw : w ≤ 4000) (hp : cPo h G c (m + 1) J w w (fun x => x) qL post) : xm_T (XE sc) (d + 3) 18 [.ref 22, .int (nI w)] h post := by
  refine xq_in rfl ?_
  simp only [xq_a0, xq_aI, xq_aJ, xq_aR, Nat.reduceAdd]
  with_reducible refine xm_go_blk b_X0_iden_0 k_X0_iden_0 ?_
  refine by_aload_n rfl ?_
  refine by_bipush cb_7 ?_
  refine by_iconst ci_m1 ?_
  refine by_iconst ci_m1 ?_
  refine by_iload_n rfl ?_
  refine by_iconst ci_0 ?_
  refine by_iload_n rfl ?_
  refine by_iload_n rfl ?_
  refine by_inv7 cn_18 lk_0_43 (by rw [xe_cnt]; decide) is_0 np_0 cn_0 (by first | exact rfl | assumption) (Nat.le_of_ble_eq_true rfl) ?_
  refine sp_addI (7, 0, 0, w, 0, w, w, (fun x => x), qL) hF hI hm (fun e => absurd (id e : (7 : Nat) ≤ 6) (by decide)) (fun e => absurd (id e : (7 : Nat) ≤ 2) (by decide)) (gW_7 hw (by omega) (by decide) (fun x hx => by simp [hx.symm])) (fun h1 G1 c1 F1 I1 e1 n1 _ => ?_)
  with_reducible refine xm_go_blk b_X0_iden_12 k_X0_iden_12 ?_
  refine by_iret ry_18 (by first | rfl | assumption) ?_
  exact hp h1 G1 c1 c F1 I1 e1 n1
theorem sp_first {a b : Nat} (hF : XF h) (hI : cI h G c m J) (hm : m + 1 ≤ 8000) (hw : a + b ≤ 4000) (hp : cPo h G c (m + 1) J (a + b) a (fun x => x.take a) qL post) : xm_T (XE sc) (d + 3) 15 [.ref 22, .int (nI a), .int (nI b)] h post := by
  refine xq_in rfl ?_
  simp only [xq_a0, xq_aI, xq_aJ, xq_aR, Nat.reduceAdd]
  with_reducible refine xm_go_blk b_X0_first_0 k_X0_first_0 ?_
  refine by_aload_n rfl ?_
  refine by_bipush cb_7 ?_
  refine by_iconst ci_m1 ?_
  refine by_iconst ci_m1 ?_
  refine by_iload_n rfl ?_
  refine by_iconst ci_0 ?_
  refine by_iload_n rfl ?_
  refine by_iload_n rfl ?_
  refine by_iadd ?_
  refine by_iload_n rfl ?_
  simp (disch := first | exact Nat.ne_of_beq_eq_false rfl | exact rfl | omega) only [nI_add, xa_sub, xa_mul, pk_div, nm_mod, xa_shr, xa_and7, xa_and1, xa_and255, xa_by_and, nI_m1, Nat.add_sub_cancel, Nat.reducePow, Nat.zero_add, Nat.add_zero, Nat.reduceAdd, Nat.reduceMul, Nat.reduceSub, xf_same, xq_ff, xq_fo, xf_1, xf_2, xs_1, xs_2, xs_same, xq_so, xj_1, xj_2, xj_same, xq_jo, xq_sa1, xq_same, xq_other, upd_s, oI_n, oI_s, xv_0, xv_1, xv_2, xv_3, xm_p1, xm_p2, xq_fp, xq_fn, List.filter_nil, Nat.reduceBEq, Bool.not_true, Bool.not_false, Bool.and_true, Bool.and_false, Bool.false_and, Bool.true_and, if_true, if_false, Bool.false_eq_true, reduceIte, xc_i, xc_j, xc_r, xc_n, List.nil_append, List.cons_append, Option.toList_some, Option.toList_none]
  refine by_inv7 cn_15 lk_0_43 (by rw [xe_cnt]; decide) is_0 np_0 cn_0 (by first | exact rfl | assumption) (Nat.le_of_ble_eq_true rfl) ?_
  refine sp_addI (7, 0, 0, a, 0, a + b, a, (fun x => x.take a), qL) hF hI hm (fun e => absurd (id e : (7 : Nat) ≤ 6) (by decide)) (fun e => absurd (id e : (7 : Nat) ≤ 2) (by decide)) (gW_7 hw (by omega) (by decide) (fun x hx => by simp)) (fun h1 G1 c1 F1 I1 e1 n1 _ => ?_)
  with_reducible refine xm_go_blk b_X0_first_14 k_X0_first_14 ?_
  refine by_iret ry_15 (by first | rfl | assumption) ?_
  exact hp h1 G1 c1 c F1 I1 e1 n1
theorem sp_second {a w : Nat} (hF : XF h) (hI : cI h G c m J) (hm : m + 1 ≤ 8000) (hw : a + w ≤ 4000) (hp : cPo h G c (m + 1) J (a + w) w (fun x => x.drop a) qL post) : xm_T (XE sc) (d + 3) 32 [.ref 22, .int (nI a), .int (nI w)] h post := by
  refine xq_in rfl ?_
  simp only [xq_a0, xq_aI, xq_aJ, xq_aR, Nat.reduceAdd]
  with_reducible refine xm_go_blk b_X0_second_0 k_X0_second_0 ?_
  refine by_aload_n rfl ?_
  refine by_bipush cb_7 ?_
  refine by_iconst ci_m1 ?_
  refine by_iconst ci_m1 ?_
  refine by_iload_n rfl ?_
  refine by_iload_n rfl ?_
  refine by_iload_n rfl ?_
  refine by_iload_n rfl ?_
  refine by_iadd ?_
  refine by_iload_n rfl ?_
  simp (disch := first | exact Nat.ne_of_beq_eq_false rfl | exact rfl | omega) only [nI_add, xa_sub, xa_mul, pk_div, nm_mod, xa_shr, xa_and7, xa_and1, xa_and255, xa_by_and, nI_m1, Nat.add_sub_cancel, Nat.reducePow, Nat.zero_add, Nat.add_zero, Nat.reduceAdd, Nat.reduceMul, Nat.reduceSub, xf_same, xq_ff, xq_fo, xf_1, xf_2, xs_1, xs_2, xs_same, xq_so, xj_1, xj_2, xj_same, xq_jo, xq_sa1, xq_same, xq_other, upd_s, oI_n, oI_s, xv_0, xv_1, xv_2, xv_3, xm_p1, xm_p2, xq_fp, xq_fn, List.filter_nil, Nat.reduceBEq, Bool.not_true, Bool.not_false, Bool.and_true, Bool.and_false, Bool.false_and, Bool.true_and, if_true, if_false, Bool.false_eq_true, reduceIte, xc_i, xc_j, xc_r, xc_n, List.nil_append, List.cons_append, Option.toList_some, Option.toList_none]
  refine by_inv7 cn_32 lk_0_43 (by rw [xe_cnt]; decide) is_0 np_0 cn_0 (by first | exact rfl | assumption) (Nat.le_of_ble_eq_true rfl) ?_
  refine sp_addI (7, 0, 0, w, a, a + w, w, (fun x => x.drop a), qL) hF hI hm (fun e => absurd (id e : (7 : Nat) ≤ 6) (by decide)) (fun e => absurd (id e : (7 : Nat) ≤ 2) (by decide)) (gW_7 hw (by omega) (by decide) (fun x hx => (List.take_of_length_le (by simp; omega)).symm)) (fun h1 G1 c1 F1 I1 e1 n1 _ => ?_)
  with_reducible refine xm_go_blk b_X0_second_14 k_X0_second_14 ?_
  refine by_iret ry_32 (by first | rfl | assumption) ?_
  exact hp h1 G1 c1 c F1 I1 e1 n1
theorem sp_unit {w : Nat} (hF : XF h) (hI : cI h G c m J) (hm : m + 1 ≤ 8000) (hw : w ≤ 4000) (hp : cPo h G c (m + 1) J w 0 (fun _ => []) qL post) : xm_T (XE sc) (d + 3) 35 [.ref 22, .int (nI w)] h post := by
  refine xq_in rfl ?_
  simp only [xq_a0, xq_aI, xq_aJ, xq_aR, Nat.reduceAdd]
  with_reducible refine xm_go_blk b_X0_unit_0 k_X0_unit_0 ?_
  refine by_aload_n rfl ?_
  refine by_bipush cb_8 ?_
  refine by_iconst ci_m1 ?_
  refine by_iconst ci_m1 ?_
  refine by_iconst ci_0 ?_
  refine by_iconst ci_0 ?_
  refine by_iload_n rfl ?_
  refine by_iconst ci_0 ?_
  refine by_inv7 cn_35 lk_0_43 (by rw [xe_cnt]; decide) is_0 np_0 cn_0 (by first | exact rfl | assumption) (Nat.le_of_ble_eq_true rfl) ?_
  refine sp_addI (8, 0, 0, 0, 0, w, 0, (fun _ => []), qL) hF hI hm (fun e => absurd (id e : (8 : Nat) ≤ 6) (by decide)) (fun e => absurd (id e : (8 : Nat) ≤ 2) (by decide)) (gW_8 hw (by decide)) (fun h1 G1 c1 F1 I1 e1 n1 _ => ?_)
  with_reducible refine xm_go_blk b_X0_unit_12 k_X0_unit_12 ?_
  refine by_iret ry_35 (by first | rfl | assumption) ?_
  exact hp h1 G1 c1 c F1 I1 e1 n1
theorem sp_gbit {v w : Nat} (hv : v < 2) (hF : XF h) (hI : cI h G c m J) (hm : m + 2 ≤ 8000) (hw : w ≤ 4000) (hp : cPo h G c (m + 2) J w 1 (fun _ => [v == 1]) qB post) : xm_T (XE sc) (d + 3) 3 [.ref 22, .int (nI v), .int (nI w)] h post := by
  refine xq_in rfl ?_
  simp only [xq_a0, xq_aI, xq_aJ, xq_aR, Nat.reduceAdd]
  have hc := cI_c hI
  with_reducible refine xm_go_blk b_X0_bit_0 k_X0_bit_0 ?_
  refine by_aload_n rfl ?_
  refine by_bipush cb_8 ?_
  refine by_iconst ci_m1 ?_
  refine by_iconst ci_m1 ?_
  refine by_iconst ci_0 ?_
  refine by_iconst ci_0 ?_
  refine by_iload_n rfl ?_
  refine by_iconst ci_0 ?_
  refine by_inv7 cn_3 lk_0_43 (by rw [xe_cnt]; decide) is_0 np_0 cn_0 (by first | exact rfl | assumption) (Nat.le_of_ble_eq_true rfl) ?_
  refine sp_addI (8, 0, 0, 0, 0, w, 0, (fun _ => []), qL) hF hI (by omega) (fun e => absurd (id e : (8 : Nat) ≤ 6) (by decide)) (fun e => absurd (id e : (8 : Nat) ≤ 2) (by decide)) (gW_8 hw (by decide)) (fun h1 G1 c1 F1 I1 e1 n1 z1 => ?_)
  have hc1 := n1.2.1
  by_cases e : v = 0
  · subst e
    with_reducible refine xm_go_blk b_X0_bit_12 k_X0_bit_12 ?_
    refine by_istore_n (by rw [ml_3]; decide) ?_
    refine by_aload_n rfl ?_
    refine by_iload_n rfl ?_
    refine by_if_ne 22 rfl ?_
    simp (disch := first | exact Nat.ne_of_beq_eq_false rfl | exact rfl | omega) only [nI_add, xa_sub, xa_mul, pk_div, nm_mod, xa_shr, xa_and7, xa_and1, xa_and255, xa_by_and, nI_m1, Nat.add_sub_cancel, Nat.reducePow, Nat.zero_add, Nat.add_zero, Nat.reduceAdd, Nat.reduceMul, Nat.reduceSub, xf_same, xq_ff, xq_fo, xf_1, xf_2, xs_1, xs_2, xs_same, xq_so, xj_1, xj_2, xj_same, xq_jo, xq_sa1, xq_same, xq_other, upd_s, oI_n, oI_s, xv_0, xv_1, xv_2, xv_3, xm_p1, xm_p2, xq_fp, xq_fn, List.filter_nil, Nat.reduceBEq, Bool.not_true, Bool.not_false, Bool.and_true, Bool.and_false, Bool.false_and, Bool.true_and, if_true, if_false, Bool.false_eq_true, reduceIte, xc_i, xc_j, xc_r, xc_n, List.nil_append, List.cons_append, Option.toList_some, Option.toList_none, nI_ltJ, nI_leJ, nI_eqJ, nI_ltz, nI_gez, nI_gtz, nI_lez, nI_eqz, m1_ltz, m1_gez, true_imp_iff, false_imp_iff, true_and, and_true, ne_eq, not_false_eq_true, not_true_eq_false, Nat.reduceEqDiff, Nat.reduceLT, Nat.reduceLeDiff]
    with_reducible refine xm_go_blk b_X0_bit_18 k_X0_bit_18 ?_
    refine by_iconst ci_3 ?_
    refine by_goto 23 rfl ?_
    with_reducible refine xm_go_blk b_X0_bit_23 k_X0_bit_23 ?_
    refine by_iload_n rfl ?_
    refine by_iconst ci_m1 ?_
    refine by_iconst ci_0 ?_
    refine by_iconst ci_0 ?_
    refine by_iload_n rfl ?_
    refine by_iconst ci_1 ?_
    refine by_inv7 cn_3 lk_0_43 (by rw [xe_cnt]; decide) is_0 np_0 cn_0 (by first | exact rfl | assumption) (Nat.le_of_ble_eq_true rfl) ?_
    refine sp_addI (3, c, 0, 0, 0, w, 1, (fun _ => [false]), qB) F1 I1 (by omega) (fun e => rfl) (fun e => absurd (id e : (3 : Nat) ≤ 2) (by decide)) (gW_34 (Or.inl rfl) hw (by decide) ⟨n1.1, hc1⟩ (by rw [z1]; exact Nat.le_refl _) (by rw [z1]; rfl) (by decide) (by rw [z1]; exact qle_rf _) (fun _ _ => rfl) (fun x hx => by rw [z1]; rfl)) (fun h2 G2 c2 F2 I2 e2 n2 _ => ?_)
    with_reducible refine xm_go_blk b_X0_bit_32 k_X0_bit_32 ?_
    refine by_iret ry_3 (by first | rfl | assumption) ?_
    exact hp h2 G2 c2 _ F2 I2 (cE_tr e1 e2) n2
  · have e' : v = 1 := by omega
    subst e'
    with_reducible refine xm_go_blk b_X0_bit_12 k_X0_bit_12 ?_
    refine by_istore_n (by rw [ml_3]; decide) ?_
    refine by_aload_n rfl ?_
    refine by_iload_n rfl ?_
    refine by_if_ne 22 rfl ?_
    simp (disch := first | exact Nat.ne_of_beq_eq_false rfl | exact rfl | omega) only [nI_add, xa_sub, xa_mul, pk_div, nm_mod, xa_shr, xa_and7, xa_and1, xa_and255, xa_by_and, nI_m1, Nat.add_sub_cancel, Nat.reducePow, Nat.zero_add, Nat.add_zero, Nat.reduceAdd, Nat.reduceMul, Nat.reduceSub, xf_same, xq_ff, xq_fo, xf_1, xf_2, xs_1, xs_2, xs_same, xq_so, xj_1, xj_2, xj_same, xq_jo, xq_sa1, xq_same, xq_other, upd_s, oI_n, oI_s, xv_0, xv_1, xv_2, xv_3, xm_p1, xm_p2, xq_fp, xq_fn, List.filter_nil, Nat.reduceBEq, Bool.not_true, Bool.not_false, Bool.and_true, Bool.and_false, Bool.false_and, Bool.true_and, if_true, if_false, Bool.false_eq_true, reduceIte, xc_i, xc_j, xc_r, xc_n, List.nil_append, List.cons_append, Option.toList_some, Option.toList_none, nI_ltJ, nI_leJ, nI_eqJ, nI_ltz, nI_gez, nI_gtz, nI_lez, nI_eqz, m1_ltz, m1_gez, true_imp_iff, false_imp_iff, true_and, and_true, ne_eq, not_false_eq_true, not_true_eq_false, Nat.reduceEqDiff, Nat.reduceLT, Nat.reduceLeDiff]
    with_reducible refine xm_go_blk b_X0_bit_22 k_X0_bit_22 ?_
    refine by_iconst ci_4 ?_
    refine by_nil ?_
    with_reducible refine xm_go_blk b_X0_bit_23 k_X0_bit_23 ?_
    refine by_iload_n rfl ?_
    refine by_iconst ci_m1 ?_
    refine by_iconst ci_0 ?_
    refine by_iconst ci_0 ?_
    refine by_iload_n rfl ?_
    refine by_iconst ci_1 ?_
    refine by_inv7 cn_3 lk_0_43 (by rw [xe_cnt]; decide) is_0 np_0 cn_0 (by first | exact rfl | assumption) (Nat.le_of_ble_eq_true rfl) ?_
    refine sp_addI (4, c, 0, 0, 0, w, 1, (fun _ => [true]), qB) F1 I1 (by omega) (fun e => rfl) (fun e => absurd (id e : (4 : Nat) ≤ 2) (by decide)) (gW_34 (Or.inr rfl) hw (by decide) ⟨n1.1, hc1⟩ (by rw [z1]; exact Nat.le_refl _) (by rw [z1]; rfl) (by decide) (by rw [z1]; exact qle_rf _) (fun _ _ => rfl) (fun x hx => by rw [z1]; rfl)) (fun h2 G2 c2 F2 I2 e2 n2 _ => ?_)
    with_reducible refine xm_go_blk b_X0_bit_32 k_X0_bit_32 ?_
    refine by_iret ry_3 (by first | rfl | assumption) ?_
    exact hp h2 G2 c2 _ F2 I2 (cE_tr e1 e2) n2
theorem sp_gtake {b : Nat} (hF : XF h) (hI : cI h G c m J) (hm : m + 1 ≤ 8000) (v : nG G c n s t F q) (hb : s + b ≤ 4000) (hp : cPo h G c (m + 1) J (s + b) t (fun x => F (x.take s)) q post) : xm_T (XE sc) (d + 3) 33 [.ref 22, .int (nI n), .int (nI b)] h post := by
  obtain ⟨w, r⟩ := cI_gW hI v
  obtain ⟨v1, v2, rfl, rfl, v5, v6⟩ := v
  obtain ⟨r1, r2, r3, r4, r5, r6, r7⟩ := r
  have hc := cI_c hI
  refine xq_in rfl ?_
  simp only [xq_a0, xq_aI, xq_aJ, xq_aR, Nat.reduceAdd]
  with_reducible refine xm_go_blk b_X0_take_0 k_X0_take_0 ?_
  refine by_aload_n rfl ?_
  refine by_aload_n rfl ?_
  refine by_getf cn_33 fl_0_11 (by first | exact rfl | assumption) (by decide) ?_
  refine by_iload_n rfl ?_
  simp (disch := first | exact Nat.ne_of_beq_eq_false rfl | exact rfl | omega) only [nI_add, xa_sub, xa_mul, pk_div, nm_mod, xa_shr, xa_and7, xa_and1, xa_and255, xa_by_and, nI_m1, Nat.add_sub_cancel, Nat.reducePow, Nat.zero_add, Nat.add_zero, Nat.reduceAdd, Nat.reduceMul, Nat.reduceSub, xf_same, xq_ff, xq_fo, xf_1, xf_2, xs_1, xs_2, xs_same, xq_so, xj_1, xj_2, xj_same, xq_jo, xq_sa1, xq_same, xq_other, upd_s, oI_n, oI_s, xf_22_0 hF, xf_22_1 hF, xf_22_2 hF, xf_22_3 hF, xf_22_4 hF, xf_22_6 hF, xf_22_7 hF, r1, r4, r5, r6, r7]
  first | refine by_iald (by first | exact rfl | assumption | exact ps_1 hpp | exact ps_2 hpp | exact ps_3 hpp | exact ps_4 hpp | exact ps_5 hpp | exact ps_6 hpp | exact ps_7 hpp | exact ps_8 hpp | exact ps_9 hpp | exact ps_10 hpp | exact ps_11 hpp | exact ps_15 hpp | exact ps_16 hpp | exact ps_17 hpp | exact ps_18 hpp | exact ps_19 hpp | exact ps_21 hpp | exact ps_22 hpp | exact ps_23 hpp | exact ps_24 hpp) ⟨by omega, by omega⟩ ?_ | refine by_tald rfl rfl ⟨by omega, by omega⟩ ?_
  refine by_aload_n rfl ?_
  refine by_getf cn_33 fl_0_15 (by first | exact rfl | assumption) (by decide) ?_
  refine by_iload_n rfl ?_
  simp (disch := first | exact Nat.ne_of_beq_eq_false rfl | exact rfl | omega) only [nI_add, xa_sub, xa_mul, pk_div, nm_mod, xa_shr, xa_and7, xa_and1, xa_and255, xa_by_and, nI_m1, Nat.add_sub_cancel, Nat.reducePow, Nat.zero_add, Nat.add_zero, Nat.reduceAdd, Nat.reduceMul, Nat.reduceSub, xf_same, xq_ff, xq_fo, xf_1, xf_2, xs_1, xs_2, xs_same, xq_so, xj_1, xj_2, xj_same, xq_jo, xq_sa1, xq_same, xq_other, upd_s, oI_n, oI_s, xf_22_0 hF, xf_22_1 hF, xf_22_2 hF, xf_22_3 hF, xf_22_4 hF, xf_22_6 hF, xf_22_7 hF, r1, r4, r5, r6, r7]
  first | refine by_iald (by first | exact rfl | assumption | exact ps_1 hpp | exact ps_2 hpp | exact ps_3 hpp | exact ps_4 hpp | exact ps_5 hpp | exact ps_6 hpp | exact ps_7 hpp | exact ps_8 hpp | exact ps_9 hpp | exact ps_10 hpp | exact ps_11 hpp | exact ps_15 hpp | exact ps_16 hpp | exact ps_17 hpp | exact ps_18 hpp | exact ps_19 hpp | exact ps_21 hpp | exact ps_22 hpp | exact ps_23 hpp | exact ps_24 hpp) ⟨by omega, by omega⟩ ?_ | refine by_tald rfl rfl ⟨by omega, by omega⟩ ?_
  refine by_aload_n rfl ?_
  refine by_getf cn_33 fl_0_18 (by first | exact rfl | assumption) (by decide) ?_
  refine by_iload_n rfl ?_
  simp (disch := first | exact Nat.ne_of_beq_eq_false rfl | exact rfl | omega) only [nI_add, xa_sub, xa_mul, pk_div, nm_mod, xa_shr, xa_and7, xa_and1, xa_and255, xa_by_and, nI_m1, Nat.add_sub_cancel, Nat.reducePow, Nat.zero_add, Nat.add_zero, Nat.reduceAdd, Nat.reduceMul, Nat.reduceSub, xf_same, xq_ff, xq_fo, xf_1, xf_2, xs_1, xs_2, xs_same, xq_so, xj_1, xj_2, xj_same, xq_jo, xq_sa1, xq_same, xq_other, upd_s, oI_n, oI_s, xf_22_0 hF, xf_22_1 hF, xf_22_2 hF, xf_22_3 hF, xf_22_4 hF, xf_22_6 hF, xf_22_7 hF, r1, r4, r5, r6, r7]
  first | refine by_iald (by first | exact rfl | assumption | exact ps_1 hpp | exact ps_2 hpp | exact ps_3 hpp | exact ps_4 hpp | exact ps_5 hpp | exact ps_6 hpp | exact ps_7 hpp | exact ps_8 hpp | exact ps_9 hpp | exact ps_10 hpp | exact ps_11 hpp | exact ps_15 hpp | exact ps_16 hpp | exact ps_17 hpp | exact ps_18 hpp | exact ps_19 hpp | exact ps_21 hpp | exact ps_22 hpp | exact ps_23 hpp | exact ps_24 hpp) ⟨by omega, by omega⟩ ?_ | refine by_tald rfl rfl ⟨by omega, by omega⟩ ?_
  refine by_aload_n rfl ?_
  refine by_getf cn_33 fl_0_21 (by first | exact rfl | assumption) (by decide) ?_
  refine by_iload_n rfl ?_
  simp (disch := first | exact Nat.ne_of_beq_eq_false rfl | exact rfl | omega) only [nI_add, xa_sub, xa_mul, pk_div, nm_mod, xa_shr, xa_and7, xa_and1, xa_and255, xa_by_and, nI_m1, Nat.add_sub_cancel, Nat.reducePow, Nat.zero_add, Nat.add_zero, Nat.reduceAdd, Nat.reduceMul, Nat.reduceSub, xf_same, xq_ff, xq_fo, xf_1, xf_2, xs_1, xs_2, xs_same, xq_so, xj_1, xj_2, xj_same, xq_jo, xq_sa1, xq_same, xq_other, upd_s, oI_n, oI_s, xf_22_0 hF, xf_22_1 hF, xf_22_2 hF, xf_22_3 hF, xf_22_4 hF, xf_22_6 hF, xf_22_7 hF, r1, r4, r5, r6, r7]
  first | refine by_iald (by first | exact rfl | assumption | exact ps_1 hpp | exact ps_2 hpp | exact ps_3 hpp | exact ps_4 hpp | exact ps_5 hpp | exact ps_6 hpp | exact ps_7 hpp | exact ps_8 hpp | exact ps_9 hpp | exact ps_10 hpp | exact ps_11 hpp | exact ps_15 hpp | exact ps_16 hpp | exact ps_17 hpp | exact ps_18 hpp | exact ps_19 hpp | exact ps_21 hpp | exact ps_22 hpp | exact ps_23 hpp | exact ps_24 hpp) ⟨by omega, by omega⟩ ?_ | refine by_tald rfl rfl ⟨by omega, by omega⟩ ?_
  refine by_aload_n rfl ?_
  refine by_getf cn_33 fl_0_24 (by first | exact rfl | assumption) (by decide) ?_
  refine by_iload_n rfl ?_
  simp (disch := first | exact Nat.ne_of_beq_eq_false rfl | exact rfl | omega) only [nI_add, xa_sub, xa_mul, pk_div, nm_mod, xa_shr, xa_and7, xa_and1, xa_and255, xa_by_and, nI_m1, Nat.add_sub_cancel, Nat.reducePow, Nat.zero_add, Nat.add_zero, Nat.reduceAdd, Nat.reduceMul, Nat.reduceSub, xf_same, xq_ff, xq_fo, xf_1, xf_2, xs_1, xs_2, xs_same, xq_so, xj_1, xj_2, xj_same, xq_jo, xq_sa1, xq_same, xq_other, upd_s, oI_n, oI_s, xf_22_0 hF, xf_22_1 hF, xf_22_2 hF, xf_22_3 hF, xf_22_4 hF, xf_22_6 hF, xf_22_7 hF, r1, r4, r5, r6, r7]
  first | refine by_iald (by first | exact rfl | assumption | exact ps_1 hpp | exact ps_2 hpp | exact ps_3 hpp | exact ps_4 hpp | exact ps_5 hpp | exact ps_6 hpp | exact ps_7 hpp | exact ps_8 hpp | exact ps_9 hpp | exact ps_10 hpp | exact ps_11 hpp | exact ps_15 hpp | exact ps_16 hpp | exact ps_17 hpp | exact ps_18 hpp | exact ps_19 hpp | exact ps_21 hpp | exact ps_22 hpp | exact ps_23 hpp | exact ps_24 hpp) ⟨by omega, by omega⟩ ?_ | refine by_tald rfl rfl ⟨by omega, by omega⟩ ?_
  refine by_aload_n rfl ?_
  refine by_getf cn_33 fl_0_30 (by first | exact rfl | assumption) (by decide) ?_
  refine by_iload_n rfl ?_
  simp (disch := first | exact Nat.ne_of_beq_eq_false rfl | exact rfl | omega) only [nI_add, xa_sub, xa_mul, pk_div, nm_mod, xa_shr, xa_and7, xa_and1, xa_and255, xa_by_and, nI_m1, Nat.add_sub_cancel, Nat.reducePow, Nat.zero_add, Nat.add_zero, Nat.reduceAdd, Nat.reduceMul, Nat.reduceSub, xf_same, xq_ff, xq_fo, xf_1, xf_2, xs_1, xs_2, xs_same, xq_so, xj_1, xj_2, xj_same, xq_jo, xq_sa1, xq_same, xq_other, upd_s, oI_n, oI_s, xf_22_0 hF, xf_22_1 hF, xf_22_2 hF, xf_22_3 hF, xf_22_4 hF, xf_22_6 hF, xf_22_7 hF, r1, r4, r5, r6, r7]
  first | refine by_iald (by first | exact rfl | assumption | exact ps_1 hpp | exact ps_2 hpp | exact ps_3 hpp | exact ps_4 hpp | exact ps_5 hpp | exact ps_6 hpp | exact ps_7 hpp | exact ps_8 hpp | exact ps_9 hpp | exact ps_10 hpp | exact ps_11 hpp | exact ps_15 hpp | exact ps_16 hpp | exact ps_17 hpp | exact ps_18 hpp | exact ps_19 hpp | exact ps_21 hpp | exact ps_22 hpp | exact ps_23 hpp | exact ps_24 hpp) ⟨by omega, by omega⟩ ?_ | refine by_tald rfl rfl ⟨by omega, by omega⟩ ?_
  refine by_iload_n rfl ?_
  refine by_iadd ?_
  refine by_aload_n rfl ?_
  refine by_getf cn_33 fl_0_33 (by first | exact rfl | assumption) (by decide) ?_
  refine by_iload_n rfl ?_
  simp (disch := first | exact Nat.ne_of_beq_eq_false rfl | exact rfl | omega) only [nI_add, xa_sub, xa_mul, pk_div, nm_mod, xa_shr, xa_and7, xa_and1, xa_and255, xa_by_and, nI_m1, Nat.add_sub_cancel, Nat.reducePow, Nat.zero_add, Nat.add_zero, Nat.reduceAdd, Nat.reduceMul, Nat.reduceSub, xf_same, xq_ff, xq_fo, xf_1, xf_2, xs_1, xs_2, xs_same, xq_so, xj_1, xj_2, xj_same, xq_jo, xq_sa1, xq_same, xq_other, upd_s, oI_n, oI_s, xf_22_0 hF, xf_22_1 hF, xf_22_2 hF, xf_22_3 hF, xf_22_4 hF, xf_22_6 hF, xf_22_7 hF, r1, r4, r5, r6, r7]
  first | refine by_iald (by first | exact rfl | assumption | exact ps_1 hpp | exact ps_2 hpp | exact ps_3 hpp | exact ps_4 hpp | exact ps_5 hpp | exact ps_6 hpp | exact ps_7 hpp | exact ps_8 hpp | exact ps_9 hpp | exact ps_10 hpp | exact ps_11 hpp | exact ps_15 hpp | exact ps_16 hpp | exact ps_17 hpp | exact ps_18 hpp | exact ps_19 hpp | exact ps_21 hpp | exact ps_22 hpp | exact ps_23 hpp | exact ps_24 hpp) ⟨by omega, by omega⟩ ?_ | refine by_tald rfl rfl ⟨by omega, by omega⟩ ?_
  simp (disch := first | exact Nat.ne_of_beq_eq_false rfl | exact rfl | omega) only [nI_add, xa_sub, xa_mul, pk_div, nm_mod, xa_shr, xa_and7, xa_and1, xa_and255, xa_by_and, nI_m1, Nat.add_sub_cancel, Nat.reducePow, Nat.zero_add, Nat.add_zero, Nat.reduceAdd, Nat.reduceMul, Nat.reduceSub, xf_same, xq_ff, xq_fo, xf_1, xf_2, xs_1, xs_2, xs_same, xq_so, xj_1, xj_2, xj_same, xq_jo, xq_sa1, xq_same, xq_other, upd_s, oI_n, oI_s, xv_0, xv_1, xv_2, xv_3, xm_p1, xm_p2, xq_fp, xq_fn, List.filter_nil, Nat.reduceBEq, Bool.not_true, Bool.not_false, Bool.and_true, Bool.and_false, Bool.false_and, Bool.true_and, if_true, if_false, Bool.false_eq_true, reduceIte, xc_i, xc_j, xc_r, xc_n, List.nil_append, List.cons_append, Option.toList_some, Option.toList_none, xf_22_0 hF, xf_22_1 hF, xf_22_2 hF, xf_22_3 hF, xf_22_4 hF, xf_22_6 hF, xf_22_7 hF, r1, r4, r5, r6, r7]
  refine by_inv7 cn_33 lk_0_43 (by rw [xe_cnt]; decide) is_0 np_0 cn_0 (by first | exact rfl | assumption) (Nat.le_of_ble_eq_true rfl) ?_
  refine sp_addI (gWd (G n) (g_s (G n) + b)) hF hI hm r2 r3 (gW_wide w v2 (by omega) hb) (fun h1 G1 c1 F1 I1 e1 n1 _ => ?_)
  with_reducible refine xm_go_blk b_X0_take_48 k_X0_take_48 ?_
  refine by_iret ry_33 (by first | rfl | assumption) ?_
  exact hp h1 G1 c1 c F1 I1 e1 (nG_cg n1 rfl rfl (fun x hx => v5 _ (by have hx' : x.length = g_s (G n) + b := hx; simp; omega)) v6)
theorem sp_widened {k : Nat} (hF : XF h) (hI : cI h G c m J) (hm : m + 1 ≤ 8000) (v : nG G c n s t F q) (hk : s ≤ k) (hk4 : k ≤ 4000) (hp : cPo h G c (m + 1) J k t (fun x => F (x.take s)) q post) : xm_T (XE sc) (d + 2) 36 [.ref 22, .int (nI n), .int (nI k)] h post := by
  obtain ⟨w, r⟩ := cI_gW hI v
  have v' := v
  obtain ⟨v1, v2, rfl, rfl, v5, v6⟩ := v
  obtain ⟨r1, r2, r3, r4, r5, r6, r7⟩ := r
  have hc := cI_c hI
  refine xq_in rfl ?_
  simp only [xq_a0, xq_aI, xq_aJ, xq_aR, Nat.reduceAdd]
  by_cases e : g_s (G n) = k
  · with_reducible refine xm_go_blk b_X0_widened_0 k_X0_widened_0 ?_
    refine by_aload_n rfl ?_
    refine by_getf cn_36 fl_0_30 (by first | exact rfl | assumption) (by decide) ?_
    refine by_iload_n rfl ?_
    simp (disch := first | exact Nat.ne_of_beq_eq_false rfl | exact rfl | omega) only [nI_add, xa_sub, xa_mul, pk_div, nm_mod, xa_shr, xa_and7, xa_and1, xa_and255, xa_by_and, nI_m1, Nat.add_sub_cancel, Nat.reducePow, Nat.zero_add, Nat.add_zero, Nat.reduceAdd, Nat.reduceMul, Nat.reduceSub, xf_same, xq_ff, xq_fo, xf_1, xf_2, xs_1, xs_2, xs_same, xq_so, xj_1, xj_2, xj_same, xq_jo, xq_sa1, xq_same, xq_other, upd_s, oI_n, oI_s, xf_22_6 hF, r6]
    first | refine by_iald (by first | exact rfl | assumption | exact ps_1 hpp | exact ps_2 hpp | exact ps_3 hpp | exact ps_4 hpp | exact ps_5 hpp | exact ps_6 hpp | exact ps_7 hpp | exact ps_8 hpp | exact ps_9 hpp | exact ps_10 hpp | exact ps_11 hpp | exact ps_15 hpp | exact ps_16 hpp | exact ps_17 hpp | exact ps_18 hpp | exact ps_19 hpp | exact ps_21 hpp | exact ps_22 hpp | exact ps_23 hpp | exact ps_24 hpp) ⟨by omega, by omega⟩ ?_ | refine by_tald rfl rfl ⟨by omega, by omega⟩ ?_
    refine by_iload_n rfl ?_
    refine by_ic_ne 14 rfl ?_
    simp (disch := first | exact Nat.ne_of_beq_eq_false rfl | exact rfl | omega) only [nI_add, xa_sub, xa_mul, pk_div, nm_mod, xa_shr, xa_and7, xa_and1, xa_and255, xa_by_and, nI_m1, Nat.add_sub_cancel, Nat.reducePow, Nat.zero_add, Nat.add_zero, Nat.reduceAdd, Nat.reduceMul, Nat.reduceSub, xf_same, xq_ff, xq_fo, xf_1, xf_2, xs_1, xs_2, xs_same, xq_so, xj_1, xj_2, xj_same, xq_jo, xq_sa1, xq_same, xq_other, upd_s, oI_n, oI_s, xv_0, xv_1, xv_2, xv_3, xm_p1, xm_p2, xq_fp, xq_fn, List.filter_nil, Nat.reduceBEq, Bool.not_true, Bool.not_false, Bool.and_true, Bool.and_false, Bool.false_and, Bool.true_and, if_true, if_false, Bool.false_eq_true, reduceIte, xc_i, xc_j, xc_r, xc_n, List.nil_append, List.cons_append, Option.toList_some, Option.toList_none, nI_ltJ, nI_leJ, nI_eqJ, nI_ltz, nI_gez, nI_gtz, nI_lez, nI_eqz, m1_ltz, m1_gez, true_imp_iff, false_imp_iff, true_and, and_true, ne_eq, not_false_eq_true, not_true_eq_false, Nat.reduceEqDiff, Nat.reduceLT, Nat.reduceLeDiff, xf_22_6 hF, r6]
    refine ⟨fun c => absurd c (by omega), fun c0 => ?_⟩
    with_reducible refine xm_go_blk b_X0_widened_10 k_X0_widened_10 ?_
    refine by_iload_n rfl ?_
    refine by_goto 55 rfl ?_
    with_reducible refine xm_go_blk b_X0_widened_55 k_X0_widened_55 ?_
    refine by_iret ry_36 (by first | rfl | assumption) ?_
    exact hp h G c n hF (cI_mono hI (by omega) hm) cE_rf (nG_cg v' e rfl (fun x hx => by rw [List.take_of_length_le (Nat.le_of_eq hx)]) (qle_rf _))
  · with_reducible refine xm_go_blk b_X0_widened_0 k_X0_widened_0 ?_
    refine by_aload_n rfl ?_
    refine by_getf cn_36 fl_0_30 (by first | exact rfl | assumption) (by decide) ?_
    refine by_iload_n rfl ?_
    simp (disch := first | exact Nat.ne_of_beq_eq_false rfl | exact rfl | omega) only [nI_add, xa_sub, xa_mul, pk_div, nm_mod, xa_shr, xa_and7, xa_and1, xa_and255, xa_by_and, nI_m1, Nat.add_sub_cancel, Nat.reducePow, Nat.zero_add, Nat.add_zero, Nat.reduceAdd, Nat.reduceMul, Nat.reduceSub, xf_same, xq_ff, xq_fo, xf_1, xf_2, xs_1, xs_2, xs_same, xq_so, xj_1, xj_2, xj_same, xq_jo, xq_sa1, xq_same, xq_other, upd_s, oI_n, oI_s, xf_22_0 hF, xf_22_1 hF, xf_22_2 hF, xf_22_3 hF, xf_22_4 hF, xf_22_6 hF, xf_22_7 hF, r1, r4, r5, r6, r7]
    first | refine by_iald (by first | exact rfl | assumption | exact ps_1 hpp | exact ps_2 hpp | exact ps_3 hpp | exact ps_4 hpp | exact ps_5 hpp | exact ps_6 hpp | exact ps_7 hpp | exact ps_8 hpp | exact ps_9 hpp | exact ps_10 hpp | exact ps_11 hpp | exact ps_15 hpp | exact ps_16 hpp | exact ps_17 hpp | exact ps_18 hpp | exact ps_19 hpp | exact ps_21 hpp | exact ps_22 hpp | exact ps_23 hpp | exact ps_24 hpp) ⟨by omega, by omega⟩ ?_ | refine by_tald rfl rfl ⟨by omega, by omega⟩ ?_
    refine by_iload_n rfl ?_
    refine by_ic_ne 14 rfl ?_
    simp (disch := first | exact Nat.ne_of_beq_eq_false rfl | exact rfl | omega) only [nI_add, xa_sub, xa_mul, pk_div, nm_mod, xa_shr, xa_and7, xa_and1, xa_and255, xa_by_and, nI_m1, Nat.add_sub_cancel, Nat.reducePow, Nat.zero_add, Nat.add_zero, Nat.reduceAdd, Nat.reduceMul, Nat.reduceSub, xf_same, xq_ff, xq_fo, xf_1, xf_2, xs_1, xs_2, xs_same, xq_so, xj_1, xj_2, xj_same, xq_jo, xq_sa1, xq_same, xq_other, upd_s, oI_n, oI_s, xv_0, xv_1, xv_2, xv_3, xm_p1, xm_p2, xq_fp, xq_fn, List.filter_nil, Nat.reduceBEq, Bool.not_true, Bool.not_false, Bool.and_true, Bool.and_false, Bool.false_and, Bool.true_and, if_true, if_false, Bool.false_eq_true, reduceIte, xc_i, xc_j, xc_r, xc_n, List.nil_append, List.cons_append, Option.toList_some, Option.toList_none, nI_ltJ, nI_leJ, nI_eqJ, nI_ltz, nI_gez, nI_gtz, nI_lez, nI_eqz, m1_ltz, m1_gez, true_imp_iff, false_imp_iff, true_and, and_true, ne_eq, not_false_eq_true, not_true_eq_false, Nat.reduceEqDiff, Nat.reduceLT, Nat.reduceLeDiff, xf_22_0 hF, xf_22_1 hF, xf_22_2 hF, xf_22_3 hF, xf_22_4 hF, xf_22_6 hF, xf_22_7 hF, r1, r4, r5, r6, r7]
    refine ⟨fun c0 => ?_, fun c => absurd (by omega) c⟩
    with_reducible refine xm_go_blk b_X0_widened_14 k_X0_widened_14 ?_
    refine by_aload_n rfl ?_
    refine by_aload_n rfl ?_
    refine by_getf cn_36 fl_0_11 (by first | exact rfl | assumption) (by decide) ?_
    refine by_iload_n rfl ?_
    simp (disch := first | exact Nat.ne_of_beq_eq_false rfl | exact rfl | omega) only [nI_add, xa_sub, xa_mul, pk_div, nm_mod, xa_shr, xa_and7, xa_and1, xa_and255, xa_by_and, nI_m1, Nat.add_sub_cancel, Nat.reducePow, Nat.zero_add, Nat.add_zero, Nat.reduceAdd, Nat.reduceMul, Nat.reduceSub, xf_same, xq_ff, xq_fo, xf_1, xf_2, xs_1, xs_2, xs_same, xq_so, xj_1, xj_2, xj_same, xq_jo, xq_sa1, xq_same, xq_other, upd_s, oI_n, oI_s, xf_22_0 hF, xf_22_1 hF, xf_22_2 hF, xf_22_3 hF, xf_22_4 hF, xf_22_6 hF, xf_22_7 hF, r1, r4, r5, r6, r7]
    first | refine by_iald (by first | exact rfl | assumption | exact ps_1 hpp | exact ps_2 hpp | exact ps_3 hpp | exact ps_4 hpp | exact ps_5 hpp | exact ps_6 hpp | exact ps_7 hpp | exact ps_8 hpp | exact ps_9 hpp | exact ps_10 hpp | exact ps_11 hpp | exact ps_15 hpp | exact ps_16 hpp | exact ps_17 hpp | exact ps_18 hpp | exact ps_19 hpp | exact ps_21 hpp | exact ps_22 hpp | exact ps_23 hpp | exact ps_24 hpp) ⟨by omega, by omega⟩ ?_ | refine by_tald rfl rfl ⟨by omega, by omega⟩ ?_
    refine by_aload_n rfl ?_
    refine by_getf cn_36 fl_0_15 (by first | exact rfl | assumption) (by decide) ?_
    refine by_iload_n rfl ?_
    simp (disch := first | exact Nat.ne_of_beq_eq_false rfl | exact rfl | omega) only [nI_add, xa_sub, xa_mul, pk_div, nm_mod, xa_shr, xa_and7, xa_and1, xa_and255, xa_by_and, nI_m1, Nat.add_sub_cancel, Nat.reducePow, Nat.zero_add, Nat.add_zero, Nat.reduceAdd, Nat.reduceMul, Nat.reduceSub, xf_same, xq_ff, xq_fo, xf_1, xf_2, xs_1, xs_2, xs_same, xq_so, xj_1, xj_2, xj_same, xq_jo, xq_sa1, xq_same, xq_other, upd_s, oI_n, oI_s, xf_22_0 hF, xf_22_1 hF, xf_22_2 hF, xf_22_3 hF, xf_22_4 hF, xf_22_6 hF, xf_22_7 hF, r1, r4, r5, r6, r7]
    first | refine by_iald (by first | exact rfl | assumption | exact ps_1 hpp | exact ps_2 hpp | exact ps_3 hpp | exact ps_4 hpp | exact ps_5 hpp | exact ps_6 hpp | exact ps_7 hpp | exact ps_8 hpp | exact ps_9 hpp | exact ps_10 hpp | exact ps_11 hpp | exact ps_15 hpp | exact ps_16 hpp | exact ps_17 hpp | exact ps_18 hpp | exact ps_19 hpp | exact ps_21 hpp | exact ps_22 hpp | exact ps_23 hpp | exact ps_24 hpp) ⟨by omega, by omega⟩ ?_ | refine by_tald rfl rfl ⟨by omega, by omega⟩ ?_
    refine by_aload_n rfl ?_
    refine by_getf cn_36 fl_0_18 (by first | exact rfl | assumption) (by decide) ?_
    refine by_iload_n rfl ?_
    simp (disch := first | exact Nat.ne_of_beq_eq_false rfl | exact rfl | omega) only [nI_add, xa_sub, xa_mul, pk_div, nm_mod, xa_shr, xa_and7, xa_and1, xa_and255, xa_by_and, nI_m1, Nat.add_sub_cancel, Nat.reducePow, Nat.zero_add, Nat.add_zero, Nat.reduceAdd, Nat.reduceMul, Nat.reduceSub, xf_same, xq_ff, xq_fo, xf_1, xf_2, xs_1, xs_2, xs_same, xq_so, xj_1, xj_2, xj_same, xq_jo, xq_sa1, xq_same, xq_other, upd_s, oI_n, oI_s, xf_22_0 hF, xf_22_1 hF, xf_22_2 hF, xf_22_3 hF, xf_22_4 hF, xf_22_6 hF, xf_22_7 hF, r1, r4, r5, r6, r7]
    first | refine by_iald (by first | exact rfl | assumption | exact ps_1 hpp | exact ps_2 hpp | exact ps_3 hpp | exact ps_4 hpp | exact ps_5 hpp | exact ps_6 hpp | exact ps_7 hpp | exact ps_8 hpp | exact ps_9 hpp | exact ps_10 hpp | exact ps_11 hpp | exact ps_15 hpp | exact ps_16 hpp | exact ps_17 hpp | exact ps_18 hpp | exact ps_19 hpp | exact ps_21 hpp | exact ps_22 hpp | exact ps_23 hpp | exact ps_24 hpp) ⟨by omega, by omega⟩ ?_ | refine by_tald rfl rfl ⟨by omega, by omega⟩ ?_
    refine by_aload_n rfl ?_
    refine by_getf cn_36 fl_0_21 (by first | exact rfl | assumption) (by decide) ?_
    refine by_iload_n rfl ?_
    simp (disch := first | exact Nat.ne_of_beq_eq_false rfl | exact rfl | omega) only [nI_add, xa_sub, xa_mul, pk_div, nm_mod, xa_shr, xa_and7, xa_and1, xa_and255, xa_by_and, nI_m1, Nat.add_sub_cancel, Nat.reducePow, Nat.zero_add, Nat.add_zero, Nat.reduceAdd, Nat.reduceMul, Nat.reduceSub, xf_same, xq_ff, xq_fo, xf_1, xf_2, xs_1, xs_2, xs_same, xq_so, xj_1, xj_2, xj_same, xq_jo, xq_sa1, xq_same, xq_other, upd_s, oI_n, oI_s, xf_22_0 hF, xf_22_1 hF, xf_22_2 hF, xf_22_3 hF, xf_22_4 hF, xf_22_6 hF, xf_22_7 hF, r1, r4, r5, r6, r7]
    first | refine by_iald (by first | exact rfl | assumption | exact ps_1 hpp | exact ps_2 hpp | exact ps_3 hpp | exact ps_4 hpp | exact ps_5 hpp | exact ps_6 hpp | exact ps_7 hpp | exact ps_8 hpp | exact ps_9 hpp | exact ps_10 hpp | exact ps_11 hpp | exact ps_15 hpp | exact ps_16 hpp | exact ps_17 hpp | exact ps_18 hpp | exact ps_19 hpp | exact ps_21 hpp | exact ps_22 hpp | exact ps_23 hpp | exact ps_24 hpp) ⟨by omega, by omega⟩ ?_ | refine by_tald rfl rfl ⟨by omega, by omega⟩ ?_
    refine by_aload_n rfl ?_
    refine by_getf cn_36 fl_0_24 (by first | exact rfl | assumption) (by decide) ?_
    refine by_iload_n rfl ?_
    simp (disch := first | exact Nat.ne_of_beq_eq_false rfl | exact rfl | omega) only [nI_add, xa_sub, xa_mul, pk_div, nm_mod, xa_shr, xa_and7, xa_and1, xa_and255, xa_by_and, nI_m1, Nat.add_sub_cancel, Nat.reducePow, Nat.zero_add, Nat.add_zero, Nat.reduceAdd, Nat.reduceMul, Nat.reduceSub, xf_same, xq_ff, xq_fo, xf_1, xf_2, xs_1, xs_2, xs_same, xq_so, xj_1, xj_2, xj_same, xq_jo, xq_sa1, xq_same, xq_other, upd_s, oI_n, oI_s, xf_22_0 hF, xf_22_1 hF, xf_22_2 hF, xf_22_3 hF, xf_22_4 hF, xf_22_6 hF, xf_22_7 hF, r1, r4, r5, r6, r7]
    first | refine by_iald (by first | exact rfl | assumption | exact ps_1 hpp | exact ps_2 hpp | exact ps_3 hpp | exact ps_4 hpp | exact ps_5 hpp | exact ps_6 hpp | exact ps_7 hpp | exact ps_8 hpp | exact ps_9 hpp | exact ps_10 hpp | exact ps_11 hpp | exact ps_15 hpp | exact ps_16 hpp | exact ps_17 hpp | exact ps_18 hpp | exact ps_19 hpp | exact ps_21 hpp | exact ps_22 hpp | exact ps_23 hpp | exact ps_24 hpp) ⟨by omega, by omega⟩ ?_ | refine by_tald rfl rfl ⟨by omega, by omega⟩ ?_
    refine by_iload_n rfl ?_
    refine by_aload_n rfl ?_
    refine by_getf cn_36 fl_0_33 (by first | exact rfl | assumption) (by decide) ?_
    refine by_iload_n rfl ?_
    simp (disch := first | exact Nat.ne_of_beq_eq_false rfl | exact rfl | omega) only [nI_add, xa_sub, xa_mul, pk_div, nm_mod, xa_shr, xa_and7, xa_and1, xa_and255, xa_by_and, nI_m1, Nat.add_sub_cancel, Nat.reducePow, Nat.zero_add, Nat.add_zero, Nat.reduceAdd, Nat.reduceMul, Nat.reduceSub, xf_same, xq_ff, xq_fo, xf_1, xf_2, xs_1, xs_2, xs_same, xq_so, xj_1, xj_2, xj_same, xq_jo, xq_sa1, xq_same, xq_other, upd_s, oI_n, oI_s, xf_22_0 hF, xf_22_1 hF, xf_22_2 hF, xf_22_3 hF, xf_22_4 hF, xf_22_6 hF, xf_22_7 hF, r1, r4, r5, r6, r7]
    first | refine by_iald (by first | exact rfl | assumption | exact ps_1 hpp | exact ps_2 hpp | exact ps_3 hpp | exact ps_4 hpp | exact ps_5 hpp | exact ps_6 hpp | exact ps_7 hpp | exact ps_8 hpp | exact ps_9 hpp | exact ps_10 hpp | exact ps_11 hpp | exact ps_15 hpp | exact ps_16 hpp | exact ps_17 hpp | exact ps_18 hpp | exact ps_19 hpp | exact ps_21 hpp | exact ps_22 hpp | exact ps_23 hpp | exact ps_24 hpp) ⟨by omega, by omega⟩ ?_ | refine by_tald rfl rfl ⟨by omega, by omega⟩ ?_
    simp (disch := first | exact Nat.ne_of_beq_eq_false rfl | exact rfl | omega) only [nI_add, xa_sub, xa_mul, pk_div, nm_mod, xa_shr, xa_and7, xa_and1, xa_and255, xa_by_and, nI_m1, Nat.add_sub_cancel, Nat.reducePow, Nat.zero_add, Nat.add_zero, Nat.reduceAdd, Nat.reduceMul, Nat.reduceSub, xf_same, xq_ff, xq_fo, xf_1, xf_2, xs_1, xs_2, xs_same, xq_so, xj_1, xj_2, xj_same, xq_jo, xq_sa1, xq_same, xq_other, upd_s, oI_n, oI_s, xv_0, xv_1, xv_2, xv_3, xm_p1, xm_p2, xq_fp, xq_fn, List.filter_nil, Nat.reduceBEq, Bool.not_true, Bool.not_false, Bool.and_true, Bool.and_false, Bool.false_and, Bool.true_and, if_true, if_false, Bool.false_eq_true, reduceIte, xc_i, xc_j, xc_r, xc_n, List.nil_append, List.cons_append, Option.toList_some, Option.toList_none, xf_22_0 hF, xf_22_1 hF, xf_22_2 hF, xf_22_3 hF, xf_22_4 hF, xf_22_6 hF, xf_22_7 hF, r1, r4, r5, r6, r7]
    refine by_inv7 cn_36 lk_0_43 (by rw [xe_cnt]; decide) is_0 np_0 cn_0 (by first | exact rfl | assumption) (Nat.le_of_ble_eq_true rfl) ?_
    refine sp_addI (gWd (G n) k) hF hI hm r2 r3 (gW_wide w v2 hk hk4) (fun h1 G1 c1 F1 I1 e1 n1 _ => ?_)
    with_reducible refine xm_go_blk b_X0_widened_55 k_X0_widened_55 ?_
    refine by_iret ry_36 (by first | rfl | assumption) ?_
    exact hp h1 G1 c1 c F1 I1 e1 (nG_cg n1 rfl rfl (fun x hx => v5 _ (by have hx' : x.length = k := hx; simp; omega)) v6)
theorem sp_gdrop {k : Nat} (hF : XF h) (hI : cI h G c m J) (hm : m + 1 ≤ 8000) (v : nG G c n s t F q) (hk : k + s ≤ 4000) (hp : cPo h G c (m + 1) J (k + s) t (fun x => F (x.drop k)) (qD q) post) : xm_T (XE sc) (d + 2) 12 [.ref 22, .int (nI k), .int (nI n)] h post := by
  obtain ⟨w, r⟩ := cI_gW hI v
  have v' := v
  obtain ⟨v1, v2, rfl, rfl, v5, v6⟩ := v
  obtain ⟨r1, r2, r3, r4, r5, r6, r7⟩ := r
  have hc := cI_c hI
  obtain ⟨w1, w2, w3, w4, w5, w6, w7, c0, c1, c2, c3, c6, c7, c8⟩ := w
  have hqd : qle (g_q (G n)) (qD q) := ⟨by show _ ≤ 1 + q.1; have := v6.1; omega, v6.2.1, v6.2.2⟩
  have hl : ∀ x : List Bool, x.length = k + g_s (G n) → (x.drop k).length = g_s (G n) := fun x hx => by simp; omega
  refine xq_in rfl ?_
  simp only [xq_a0, xq_aI, xq_aJ, xq_aR, Nat.reduceAdd]
  by_cases e : k = 0
  · subst e
    with_reducible refine xm_go_blk b_X0_drop_0 k_X0_drop_0 ?_
    refine by_iload_n rfl ?_
    refine by_aload_n rfl ?_
    refine by_getf cn_12 fl_0_30 (by first | exact rfl | assumption) (by decide) ?_
    refine by_iload_n rfl ?_
    simp (disch := first | exact Nat.ne_of_beq_eq_false rfl | exact rfl | omega) only [nI_add, xa_sub, xa_mul, pk_div, nm_mod, xa_shr, xa_and7, xa_and1, xa_and255, xa_by_and, nI_m1, Nat.add_sub_cancel, Nat.reducePow, Nat.zero_add, Nat.add_zero, Nat.reduceAdd, Nat.reduceMul, Nat.reduceSub, xf_same, xq_ff, xq_fo, xf_1, xf_2, xs_1, xs_2, xs_same, xq_so, xj_1, xj_2, xj_same, xq_jo, xq_sa1, xq_same, xq_other, upd_s, oI_n, oI_s, xf_22_6 hF, r6]
    first | refine by_iald (by first | exact rfl | assumption | exact ps_1 hpp | exact ps_2 hpp | exact ps_3 hpp | exact ps_4 hpp | exact ps_5 hpp | exact ps_6 hpp | exact ps_7 hpp | exact ps_8 hpp | exact ps_9 hpp | exact ps_10 hpp | exact ps_11 hpp | exact ps_15 hpp | exact ps_16 hpp | exact ps_17 hpp | exact ps_18 hpp | exact ps_19 hpp | exact ps_21 hpp | exact ps_22 hpp | exact ps_23 hpp | exact ps_24 hpp) ⟨by omega, by omega⟩ ?_ | refine by_tald rfl rfl ⟨by omega, by omega⟩ ?_
    refine by_iadd ?_
    refine by_istore_n (by rw [ml_12]; decide) ?_
    refine by_iload_n rfl ?_
    refine by_if_ne 15 rfl ?_
    simp (disch := first | exact Nat.ne_of_beq_eq_false rfl | exact rfl | omega) only [nI_add, xa_sub, xa_mul, pk_div, nm_mod, xa_shr, xa_and7, xa_and1, xa_and255, xa_by_and, nI_m1, Nat.add_sub_cancel, Nat.reducePow, Nat.zero_add, Nat.add_zero, Nat.reduceAdd, Nat.reduceMul, Nat.reduceSub, xf_same, xq_ff, xq_fo, xf_1, xf_2, xs_1, xs_2, xs_same, xq_so, xj_1, xj_2, xj_same, xq_jo, xq_sa1, xq_same, xq_other, upd_s, oI_n, oI_s, xv_0, xv_1, xv_2, xv_3, xm_p1, xm_p2, xq_fp, xq_fn, List.filter_nil, Nat.reduceBEq, Bool.not_true, Bool.not_false, Bool.and_true, Bool.and_false, Bool.false_and, Bool.true_and, if_true, if_false, Bool.false_eq_true, reduceIte, xc_i, xc_j, xc_r, xc_n, List.nil_append, List.cons_append, Option.toList_some, Option.toList_none, nI_ltJ, nI_leJ, nI_eqJ, nI_ltz, nI_gez, nI_gtz, nI_lez, nI_eqz, m1_ltz, m1_gez, true_imp_iff, false_imp_iff, true_and, and_true, ne_eq, not_false_eq_true, not_true_eq_false, Nat.reduceEqDiff, Nat.reduceLT, Nat.reduceLeDiff, xf_22_6 hF, r6]
    with_reducible refine xm_go_blk b_X0_drop_13 k_X0_drop_13 ?_
    refine by_iload_n rfl ?_
    refine by_iret ry_12 (by first | rfl | assumption) ?_
    exact hp h G c n hF (cI_mono hI (by omega) hm) cE_rf (nG_cg v' (by omega) rfl (fun x hx => by simp) ⟨by show _ ≤ 1 + q.1; omega, Nat.le_refl _, Nat.le_refl _⟩)
  · by_cases e7 : g_o (G n) = 7
    · obtain ⟨a3, a4, a8⟩ := c7 e7
      with_reducible refine xm_go_blk b_X0_drop_0 k_X0_drop_0 ?_
      refine by_iload_n rfl ?_
      refine by_aload_n rfl ?_
      refine by_getf cn_12 fl_0_30 (by first | exact rfl | assumption) (by decide) ?_
      refine by_iload_n rfl ?_
      simp (disch := first | exact Nat.ne_of_beq_eq_false rfl | exact rfl | omega) only [nI_add, xa_sub, xa_mul, pk_div, nm_mod, xa_shr, xa_and7, xa_and1, xa_and255, xa_by_and, nI_m1, Nat.add_sub_cancel, Nat.reducePow, Nat.zero_add, Nat.add_zero, Nat.reduceAdd, Nat.reduceMul, Nat.reduceSub, xf_same, xq_ff, xq_fo, xf_1, xf_2, xs_1, xs_2, xs_same, xq_so, xj_1, xj_2, xj_same, xq_jo, xq_sa1, xq_same, xq_other, upd_s, oI_n, oI_s, xf_22_0 hF, xf_22_3 hF, xf_22_4 hF, xf_22_6 hF, xf_22_7 hF, r1, r4, r5, r6, r7]
      first | refine by_iald (by first | exact rfl | assumption | exact ps_1 hpp | exact ps_2 hpp | exact ps_3 hpp | exact ps_4 hpp | exact ps_5 hpp | exact ps_6 hpp | exact ps_7 hpp | exact ps_8 hpp | exact ps_9 hpp | exact ps_10 hpp | exact ps_11 hpp | exact ps_15 hpp | exact ps_16 hpp | exact ps_17 hpp | exact ps_18 hpp | exact ps_19 hpp | exact ps_21 hpp | exact ps_22 hpp | exact ps_23 hpp | exact ps_24 hpp) ⟨by omega, by omega⟩ ?_ | refine by_tald rfl rfl ⟨by omega, by omega⟩ ?_
      refine by_iadd ?_
      refine by_istore_n (by rw [ml_12]; decide) ?_
      refine by_iload_n rfl ?_
      refine by_if_ne 15 rfl ?_
      simp (disch := first | exact Nat.ne_of_beq_eq_false rfl | exact rfl | omega) only [nI_add, xa_sub, xa_mul, pk_div, nm_mod, xa_shr, xa_and7, xa_and1, xa_and255, xa_by_and, nI_m1, Nat.add_sub_cancel, Nat.reducePow, Nat.zero_add, Nat.add_zero, Nat.reduceAdd, Nat.reduceMul, Nat.reduceSub, xf_same, xq_ff, xq_fo, xf_1, xf_2, xs_1, xs_2, xs_same, xq_so, xj_1, xj_2, xj_same, xq_jo, xq_sa1, xq_same, xq_other, upd_s, oI_n, oI_s, xv_0, xv_1, xv_2, xv_3, xm_p1, xm_p2, xq_fp, xq_fn, List.filter_nil, Nat.reduceBEq, Bool.not_true, Bool.not_false, Bool.and_true, Bool.and_false, Bool.false_and, Bool.true_and, if_true, if_false, Bool.false_eq_true, reduceIte, xc_i, xc_j, xc_r, xc_n, List.nil_append, List.cons_append, Option.toList_some, Option.toList_none, nI_ltJ, nI_leJ, nI_eqJ, nI_ltz, nI_gez, nI_gtz, nI_lez, nI_eqz, m1_ltz, m1_gez, true_imp_iff, false_imp_iff, true_and, and_true, ne_eq, not_false_eq_true, not_true_eq_false, Nat.reduceEqDiff, Nat.reduceLT, Nat.reduceLeDiff, xf_22_0 hF, xf_22_3 hF, xf_22_4 hF, xf_22_6 hF, xf_22_7 hF, r1, r4, r5, r6, r7]
      refine ⟨fun c0 => ?_, fun c => absurd (by omega) c⟩
      with_reducible refine xm_go_blk b_X0_drop_15 k_X0_drop_15 ?_
      refine by_aload_n rfl ?_
      refine by_getf cn_12 fl_0_11 (by first | exact rfl | assumption) (by decide) ?_
      refine by_iload_n rfl ?_
      simp (disch := first | exact Nat.ne_of_beq_eq_false rfl | exact rfl | omega) only [nI_add, xa_sub, xa_mul, pk_div, nm_mod, xa_shr, xa_and7, xa_and1, xa_and255, xa_by_and, nI_m1, Nat.add_sub_cancel, Nat.reducePow, Nat.zero_add, Nat.add_zero, Nat.reduceAdd, Nat.reduceMul, Nat.reduceSub, xf_same, xq_ff, xq_fo, xf_1, xf_2, xs_1, xs_2, xs_same, xq_so, xj_1, xj_2, xj_same, xq_jo, xq_sa1, xq_same, xq_other, upd_s, oI_n, oI_s, xf_22_0 hF, xf_22_3 hF, xf_22_4 hF, xf_22_6 hF, xf_22_7 hF, r1, r4, r5, r6, r7]
      first | refine by_iald (by first | exact rfl | assumption | exact ps_1 hpp | exact ps_2 hpp | exact ps_3 hpp | exact ps_4 hpp | exact ps_5 hpp | exact ps_6 hpp | exact ps_7 hpp | exact ps_8 hpp | exact ps_9 hpp | exact ps_10 hpp | exact ps_11 hpp | exact ps_15 hpp | exact ps_16 hpp | exact ps_17 hpp | exact ps_18 hpp | exact ps_19 hpp | exact ps_21 hpp | exact ps_22 hpp | exact ps_23 hpp | exact ps_24 hpp) ⟨by omega, by omega⟩ ?_ | refine by_tald rfl rfl ⟨by omega, by omega⟩ ?_
      refine by_bipush cb_7 ?_
      refine by_ic_ne 56 rfl ?_
      simp (disch := first | exact Nat.ne_of_beq_eq_false rfl | exact rfl | omega) only [nI_add, xa_sub, xa_mul, pk_div, nm_mod, xa_shr, xa_and7, xa_and1, xa_and255, xa_by_and, nI_m1, Nat.add_sub_cancel, Nat.reducePow, Nat.zero_add, Nat.add_zero, Nat.reduceAdd, Nat.reduceMul, Nat.reduceSub, xf_same, xq_ff, xq_fo, xf_1, xf_2, xs_1, xs_2, xs_same, xq_so, xj_1, xj_2, xj_same, xq_jo, xq_sa1, xq_same, xq_other, upd_s, oI_n, oI_s, xv_0, xv_1, xv_2, xv_3, xm_p1, xm_p2, xq_fp, xq_fn, List.filter_nil, Nat.reduceBEq, Bool.not_true, Bool.not_false, Bool.and_true, Bool.and_false, Bool.false_and, Bool.true_and, if_true, if_false, Bool.false_eq_true, reduceIte, xc_i, xc_j, xc_r, xc_n, List.nil_append, List.cons_append, Option.toList_some, Option.toList_none, nI_ltJ, nI_leJ, nI_eqJ, nI_ltz, nI_gez, nI_gtz, nI_lez, nI_eqz, m1_ltz, m1_gez, true_imp_iff, false_imp_iff, true_and, and_true, ne_eq, not_false_eq_true, not_true_eq_false, Nat.reduceEqDiff, Nat.reduceLT, Nat.reduceLeDiff, xf_22_0 hF, xf_22_3 hF, xf_22_4 hF, xf_22_6 hF, xf_22_7 hF, r1, r4, r5, r6, r7]
      refine ⟨fun c => absurd c (by omega), fun c15 => ?_⟩
      with_reducible refine xm_go_blk b_X0_drop_26 k_X0_drop_26 ?_
      refine by_aload_n rfl ?_
      refine by_bipush cb_7 ?_
      refine by_iconst ci_m1 ?_
      refine by_iconst ci_m1 ?_
      refine by_aload_n rfl ?_
      refine by_getf cn_12 fl_0_21 (by first | exact rfl | assumption) (by decide) ?_
      refine by_iload_n rfl ?_
      simp (disch := first | exact Nat.ne_of_beq_eq_false rfl | exact rfl | omega) only [nI_add, xa_sub, xa_mul, pk_div, nm_mod, xa_shr, xa_and7, xa_and1, xa_and255, xa_by_and, nI_m1, Nat.add_sub_cancel, Nat.reducePow, Nat.zero_add, Nat.add_zero, Nat.reduceAdd, Nat.reduceMul, Nat.reduceSub, xf_same, xq_ff, xq_fo, xf_1, xf_2, xs_1, xs_2, xs_same, xq_so, xj_1, xj_2, xj_same, xq_jo, xq_sa1, xq_same, xq_other, upd_s, oI_n, oI_s, xf_22_0 hF, xf_22_3 hF, xf_22_4 hF, xf_22_6 hF, xf_22_7 hF, r1, r4, r5, r6, r7]
      first | refine by_iald (by first | exact rfl | assumption | exact ps_1 hpp | exact ps_2 hpp | exact ps_3 hpp | exact ps_4 hpp | exact ps_5 hpp | exact ps_6 hpp | exact ps_7 hpp | exact ps_8 hpp | exact ps_9 hpp | exact ps_10 hpp | exact ps_11 hpp | exact ps_15 hpp | exact ps_16 hpp | exact ps_17 hpp | exact ps_18 hpp | exact ps_19 hpp | exact ps_21 hpp | exact ps_22 hpp | exact ps_23 hpp | exact ps_24 hpp) ⟨by omega, by omega⟩ ?_ | refine by_tald rfl rfl ⟨by omega, by omega⟩ ?_
      refine by_iload_n rfl ?_
      refine by_aload_n rfl ?_
      refine by_getf cn_12 fl_0_24 (by first | exact rfl | assumption) (by decide) ?_
      refine by_iload_n rfl ?_
      simp (disch := first | exact Nat.ne_of_beq_eq_false rfl | exact rfl | omega) only [nI_add, xa_sub, xa_mul, pk_div, nm_mod, xa_shr, xa_and7, xa_and1, xa_and255, xa_by_and, nI_m1, Nat.add_sub_cancel, Nat.reducePow, Nat.zero_add, Nat.add_zero, Nat.reduceAdd, Nat.reduceMul, Nat.reduceSub, xf_same, xq_ff, xq_fo, xf_1, xf_2, xs_1, xs_2, xs_same, xq_so, xj_1, xj_2, xj_same, xq_jo, xq_sa1, xq_same, xq_other, upd_s, oI_n, oI_s, xf_22_0 hF, xf_22_3 hF, xf_22_4 hF, xf_22_6 hF, xf_22_7 hF, r1, r4, r5, r6, r7]
      first | refine by_iald (by first | exact rfl | assumption | exact ps_1 hpp | exact ps_2 hpp | exact ps_3 hpp | exact ps_4 hpp | exact ps_5 hpp | exact ps_6 hpp | exact ps_7 hpp | exact ps_8 hpp | exact ps_9 hpp | exact ps_10 hpp | exact ps_11 hpp | exact ps_15 hpp | exact ps_16 hpp | exact ps_17 hpp | exact ps_18 hpp | exact ps_19 hpp | exact ps_21 hpp | exact ps_22 hpp | exact ps_23 hpp | exact ps_24 hpp) ⟨by omega, by omega⟩ ?_ | refine by_tald rfl rfl ⟨by omega, by omega⟩ ?_
      refine by_iadd ?_
      refine by_iload_n rfl ?_
      refine by_aload_n rfl ?_
      refine by_getf cn_12 fl_0_33 (by first | exact rfl | assumption) (by decide) ?_
      refine by_iload_n rfl ?_
      simp (disch := first | exact Nat.ne_of_beq_eq_false rfl | exact rfl | omega) only [nI_add, xa_sub, xa_mul, pk_div, nm_mod, xa_shr, xa_and7, xa_and1, xa_and255, xa_by_and, nI_m1, Nat.add_sub_cancel, Nat.reducePow, Nat.zero_add, Nat.add_zero, Nat.reduceAdd, Nat.reduceMul, Nat.reduceSub, xf_same, xq_ff, xq_fo, xf_1, xf_2, xs_1, xs_2, xs_same, xq_so, xj_1, xj_2, xj_same, xq_jo, xq_sa1, xq_same, xq_other, upd_s, oI_n, oI_s, xf_22_0 hF, xf_22_3 hF, xf_22_4 hF, xf_22_6 hF, xf_22_7 hF, r1, r4, r5, r6, r7]
      first | refine by_iald (by first | exact rfl | assumption | exact ps_1 hpp | exact ps_2 hpp | exact ps_3 hpp | exact ps_4 hpp | exact ps_5 hpp | exact ps_6 hpp | exact ps_7 hpp | exact ps_8 hpp | exact ps_9 hpp | exact ps_10 hpp | exact ps_11 hpp | exact ps_15 hpp | exact ps_16 hpp | exact ps_17 hpp | exact ps_18 hpp | exact ps_19 hpp | exact ps_21 hpp | exact ps_22 hpp | exact ps_23 hpp | exact ps_24 hpp) ⟨by omega, by omega⟩ ?_ | refine by_tald rfl rfl ⟨by omega, by omega⟩ ?_
      simp (disch := first | exact Nat.ne_of_beq_eq_false rfl | exact rfl | omega) only [nI_add, xa_sub, xa_mul, pk_div, nm_mod, xa_shr, xa_and7, xa_and1, xa_and255, xa_by_and, nI_m1, Nat.add_sub_cancel, Nat.reducePow, Nat.zero_add, Nat.add_zero, Nat.reduceAdd, Nat.reduceMul, Nat.reduceSub, xf_same, xq_ff, xq_fo, xf_1, xf_2, xs_1, xs_2, xs_same, xq_so, xj_1, xj_2, xj_same, xq_jo, xq_sa1, xq_same, xq_other, upd_s, oI_n, oI_s, xv_0, xv_1, xv_2, xv_3, xm_p1, xm_p2, xq_fp, xq_fn, List.filter_nil, Nat.reduceBEq, Bool.not_true, Bool.not_false, Bool.and_true, Bool.and_false, Bool.false_and, Bool.true_and, if_true, if_false, Bool.false_eq_true, reduceIte, xc_i, xc_j, xc_r, xc_n, List.nil_append, List.cons_append, Option.toList_some, Option.toList_none, xf_22_0 hF, xf_22_3 hF, xf_22_4 hF, xf_22_6 hF, xf_22_7 hF, r1, r4, r5, r6, r7]
      refine by_inv7 cn_12 lk_0_43 (by rw [xe_cnt]; decide) is_0 np_0 cn_0 (by first | exact rfl | assumption) (Nat.le_of_ble_eq_true rfl) ?_
      rw [a4]
      refine sp_addI (7, 0, 0, g_k (G n), k + g_l (G n), k + g_s (G n), g_k (G n), (fun x => g_F (G n) (x.drop k)), g_q (G n)) hF hI hm (fun e => absurd (id e : (7 : Nat) ≤ 6) (by decide)) (fun e => absurd (id e : (7 : Nat) ≤ 2) (by decide)) (gW_7 hk (by omega) w4 (fun x hx => by rw [a8 _ (hl x hx), List.drop_drop])) (fun h1 G1 c1 F1 I1 e1 n1 _ => ?_)
      with_reducible refine xm_go_blk b_X0_drop_55 k_X0_drop_55 ?_
      refine by_iret ry_12 (by first | rfl | assumption) ?_
      exact hp h1 G1 c1 c F1 I1 e1 (nG_cg n1 rfl a4.symm (fun x hx => v5 _ (hl x hx)) hqd)
    · by_cases e6 : g_o (G n) = 6
      · obtain ⟨a1, a3, a4, a5, a8⟩ := c6 e6
        have ea := r2 (by omega)
        with_reducible refine xm_go_blk b_X0_drop_0 k_X0_drop_0 ?_
        refine by_iload_n rfl ?_
        refine by_aload_n rfl ?_
        refine by_getf cn_12 fl_0_30 (by first | exact rfl | assumption) (by decide) ?_
        refine by_iload_n rfl ?_
        simp (disch := first | exact Nat.ne_of_beq_eq_false rfl | exact rfl | omega) only [nI_add, xa_sub, xa_mul, pk_div, nm_mod, xa_shr, xa_and7, xa_and1, xa_and255, xa_by_and, nI_m1, Nat.add_sub_cancel, Nat.reducePow, Nat.zero_add, Nat.add_zero, Nat.reduceAdd, Nat.reduceMul, Nat.reduceSub, xf_same, xq_ff, xq_fo, xf_1, xf_2, xs_1, xs_2, xs_same, xq_so, xj_1, xj_2, xj_same, xq_jo, xq_sa1, xq_same, xq_other, upd_s, oI_n, oI_s, xf_22_0 hF, xf_22_1 hF, xf_22_3 hF, xf_22_4 hF, xf_22_6 hF, xf_22_7 hF, r1, r4, r5, r6, r7, ea]
        first | refine by_iald (by first | exact rfl | assumption | exact ps_1 hpp | exact ps_2 hpp | exact ps_3 hpp | exact ps_4 hpp | exact ps_5 hpp | exact ps_6 hpp | exact ps_7 hpp | exact ps_8 hpp | exact ps_9 hpp | exact ps_10 hpp | exact ps_11 hpp | exact ps_15 hpp | exact ps_16 hpp | exact ps_17 hpp | exact ps_18 hpp | exact ps_19 hpp | exact ps_21 hpp | exact ps_22 hpp | exact ps_23 hpp | exact ps_24 hpp) ⟨by omega, by omega⟩ ?_ | refine by_tald rfl rfl ⟨by omega, by omega⟩ ?_
        refine by_iadd ?_
        refine by_istore_n (by rw [ml_12]; decide) ?_
        refine by_iload_n rfl ?_
        refine by_if_ne 15 rfl ?_
        simp (disch := first | exact Nat.ne_of_beq_eq_false rfl | exact rfl | omega) only [nI_add, xa_sub, xa_mul, pk_div, nm_mod, xa_shr, xa_and7, xa_and1, xa_and255, xa_by_and, nI_m1, Nat.add_sub_cancel, Nat.reducePow, Nat.zero_add, Nat.add_zero, Nat.reduceAdd, Nat.reduceMul, Nat.reduceSub, xf_same, xq_ff, xq_fo, xf_1, xf_2, xs_1, xs_2, xs_same, xq_so, xj_1, xj_2, xj_same, xq_jo, xq_sa1, xq_same, xq_other, upd_s, oI_n, oI_s, xv_0, xv_1, xv_2, xv_3, xm_p1, xm_p2, xq_fp, xq_fn, List.filter_nil, Nat.reduceBEq, Bool.not_true, Bool.not_false, Bool.and_true, Bool.and_false, Bool.false_and, Bool.true_and, if_true, if_false, Bool.false_eq_true, reduceIte, xc_i, xc_j, xc_r, xc_n, List.nil_append, List.cons_append, Option.toList_some, Option.toList_none, nI_ltJ, nI_leJ, nI_eqJ, nI_ltz, nI_gez, nI_gtz, nI_lez, nI_eqz, m1_ltz, m1_gez, true_imp_iff, false_imp_iff, true_and, and_true, ne_eq, not_false_eq_true, not_true_eq_false, Nat.reduceEqDiff, Nat.reduceLT, Nat.reduceLeDiff, xf_22_0 hF, xf_22_1 hF, xf_22_3 hF, xf_22_4 hF, xf_22_6 hF, xf_22_7 hF, r1, r4, r5, r6, r7, ea]
        refine ⟨fun c0 => ?_, fun c => absurd (by omega) c⟩
        with_reducible refine xm_go_blk b_X0_drop_15 k_X0_drop_15 ?_
        refine by_aload_n rfl ?_
        refine by_getf cn_12 fl_0_11 (by first | exact rfl | assumption) (by decide) ?_
        refine by_iload_n rfl ?_
        simp (disch := first | exact Nat.ne_of_beq_eq_false rfl | exact rfl | omega) only [nI_add, xa_sub, xa_mul, pk_div, nm_mod, xa_shr, xa_and7, xa_and1, xa_and255, xa_by_and, nI_m1, Nat.add_sub_cancel, Nat.reducePow, Nat.zero_add, Nat.add_zero, Nat.reduceAdd, Nat.reduceMul, Nat.reduceSub, xf_same, xq_ff, xq_fo, xf_1, xf_2, xs_1, xs_2, xs_same, xq_so, xj_1, xj_2, xj_same, xq_jo, xq_sa1, xq_same, xq_other, upd_s, oI_n, oI_s, xf_22_0 hF, xf_22_1 hF, xf_22_3 hF, xf_22_4 hF, xf_22_6 hF, xf_22_7 hF, r1, r4, r5, r6, r7, ea]
        first | refine by_iald (by first | exact rfl | assumption | exact ps_1 hpp | exact ps_2 hpp | exact ps_3 hpp | exact ps_4 hpp | exact ps_5 hpp | exact ps_6 hpp | exact ps_7 hpp | exact ps_8 hpp | exact ps_9 hpp | exact ps_10 hpp | exact ps_11 hpp | exact ps_15 hpp | exact ps_16 hpp | exact ps_17 hpp | exact ps_18 hpp | exact ps_19 hpp | exact ps_21 hpp | exact ps_22 hpp | exact ps_23 hpp | exact ps_24 hpp) ⟨by omega, by omega⟩ ?_ | refine by_tald rfl rfl ⟨by omega, by omega⟩ ?_
        refine by_bipush cb_7 ?_
        refine by_ic_ne 56 rfl ?_
        simp (disch := first | exact Nat.ne_of_beq_eq_false rfl | exact rfl | omega) only [nI_add, xa_sub, xa_mul, pk_div, nm_mod, xa_shr, xa_and7, xa_and1, xa_and255, xa_by_and, nI_m1, Nat.add_sub_cancel, Nat.reducePow, Nat.zero_add, Nat.add_zero, Nat.reduceAdd, Nat.reduceMul, Nat.reduceSub, xf_same, xq_ff, xq_fo, xf_1, xf_2, xs_1, xs_2, xs_same, xq_so, xj_1, xj_2, xj_same, xq_jo, xq_sa1, xq_same, xq_other, upd_s, oI_n, oI_s, xv_0, xv_1, xv_2, xv_3, xm_p1, xm_p2, xq_fp, xq_fn, List.filter_nil, Nat.reduceBEq, Bool.not_true, Bool.not_false, Bool.and_true, Bool.and_false, Bool.false_and, Bool.true_and, if_true, if_false, Bool.false_eq_true, reduceIte, xc_i, xc_j, xc_r, xc_n, List.nil_append, List.cons_append, Option.toList_some, Option.toList_none, nI_ltJ, nI_leJ, nI_eqJ, nI_ltz, nI_gez, nI_gtz, nI_lez, nI_eqz, m1_ltz, m1_gez, true_imp_iff, false_imp_iff, true_and, and_true, ne_eq, not_false_eq_true, not_true_eq_false, Nat.reduceEqDiff, Nat.reduceLT, Nat.reduceLeDiff, xf_22_0 hF, xf_22_1 hF, xf_22_3 hF, xf_22_4 hF, xf_22_6 hF, xf_22_7 hF, r1, r4, r5, r6, r7, ea]
        refine ⟨fun c15 => ?_, fun c => absurd (by omega) c⟩
        with_reducible refine xm_go_blk b_X0_drop_56 k_X0_drop_56 ?_
        refine by_aload_n rfl ?_
        refine by_getf cn_12 fl_0_11 (by first | exact rfl | assumption) (by decide) ?_
        refine by_iload_n rfl ?_
        simp (disch := first | exact Nat.ne_of_beq_eq_false rfl | exact rfl | omega) only [nI_add, xa_sub, xa_mul, pk_div, nm_mod, xa_shr, xa_and7, xa_and1, xa_and255, xa_by_and, nI_m1, Nat.add_sub_cancel, Nat.reducePow, Nat.zero_add, Nat.add_zero, Nat.reduceAdd, Nat.reduceMul, Nat.reduceSub, xf_same, xq_ff, xq_fo, xf_1, xf_2, xs_1, xs_2, xs_same, xq_so, xj_1, xj_2, xj_same, xq_jo, xq_sa1, xq_same, xq_other, upd_s, oI_n, oI_s, xf_22_0 hF, xf_22_1 hF, xf_22_3 hF, xf_22_4 hF, xf_22_6 hF, xf_22_7 hF, r1, r4, r5, r6, r7, ea]
        first | refine by_iald (by first | exact rfl | assumption | exact ps_1 hpp | exact ps_2 hpp | exact ps_3 hpp | exact ps_4 hpp | exact ps_5 hpp | exact ps_6 hpp | exact ps_7 hpp | exact ps_8 hpp | exact ps_9 hpp | exact ps_10 hpp | exact ps_11 hpp | exact ps_15 hpp | exact ps_16 hpp | exact ps_17 hpp | exact ps_18 hpp | exact ps_19 hpp | exact ps_21 hpp | exact ps_22 hpp | exact ps_23 hpp | exact ps_24 hpp) ⟨by omega, by omega⟩ ?_ | refine by_tald rfl rfl ⟨by omega, by omega⟩ ?_
        refine by_bipush cb_6 ?_
        refine by_ic_ne 97 rfl ?_
        simp (disch := first | exact Nat.ne_of_beq_eq_false rfl | exact rfl | omega) only [nI_add, xa_sub, xa_mul, pk_div, nm_mod, xa_shr, xa_and7, xa_and1, xa_and255, xa_by_and, nI_m1, Nat.add_sub_cancel, Nat.reducePow, Nat.zero_add, Nat.add_zero, Nat.reduceAdd, Nat.reduceMul, Nat.reduceSub, xf_same, xq_ff, xq_fo, xf_1, xf_2, xs_1, xs_2, xs_same, xq_so, xj_1, xj_2, xj_same, xq_jo, xq_sa1, xq_same, xq_other, upd_s, oI_n, oI_s, xv_0, xv_1, xv_2, xv_3, xm_p1, xm_p2, xq_fp, xq_fn, List.filter_nil, Nat.reduceBEq, Bool.not_true, Bool.not_false, Bool.and_true, Bool.and_false, Bool.false_and, Bool.true_and, if_true, if_false, Bool.false_eq_true, reduceIte, xc_i, xc_j, xc_r, xc_n, List.nil_append, List.cons_append, Option.toList_some, Option.toList_none, nI_ltJ, nI_leJ, nI_eqJ, nI_ltz, nI_gez, nI_gtz, nI_lez, nI_eqz, m1_ltz, m1_gez, true_imp_iff, false_imp_iff, true_and, and_true, ne_eq, not_false_eq_true, not_true_eq_false, Nat.reduceEqDiff, Nat.reduceLT, Nat.reduceLeDiff, xf_22_0 hF, xf_22_1 hF, xf_22_3 hF, xf_22_4 hF, xf_22_6 hF, xf_22_7 hF, r1, r4, r5, r6, r7, ea]
        refine ⟨fun c => absurd c (by omega), fun c56 => ?_⟩
        with_reducible refine xm_go_blk b_X0_drop_67 k_X0_drop_67 ?_
        refine by_aload_n rfl ?_
        refine by_bipush cb_6 ?_
        refine by_aload_n rfl ?_
        refine by_getf cn_12 fl_0_15 (by first | exact rfl | assumption) (by decide) ?_
        refine by_iload_n rfl ?_
        simp (disch := first | exact Nat.ne_of_beq_eq_false rfl | exact rfl | omega) only [nI_add, xa_sub, xa_mul, pk_div, nm_mod, xa_shr, xa_and7, xa_and1, xa_and255, xa_by_and, nI_m1, Nat.add_sub_cancel, Nat.reducePow, Nat.zero_add, Nat.add_zero, Nat.reduceAdd, Nat.reduceMul, Nat.reduceSub, xf_same, xq_ff, xq_fo, xf_1, xf_2, xs_1, xs_2, xs_same, xq_so, xj_1, xj_2, xj_same, xq_jo, xq_sa1, xq_same, xq_other, upd_s, oI_n, oI_s, xf_22_0 hF, xf_22_1 hF, xf_22_3 hF, xf_22_4 hF, xf_22_6 hF, xf_22_7 hF, r1, r4, r5, r6, r7, ea]
        first | refine by_iald (by first | exact rfl | assumption | exact ps_1 hpp | exact ps_2 hpp | exact ps_3 hpp | exact ps_4 hpp | exact ps_5 hpp | exact ps_6 hpp | exact ps_7 hpp | exact ps_8 hpp | exact ps_9 hpp | exact ps_10 hpp | exact ps_11 hpp | exact ps_15 hpp | exact ps_16 hpp | exact ps_17 hpp | exact ps_18 hpp | exact ps_19 hpp | exact ps_21 hpp | exact ps_22 hpp | exact ps_23 hpp | exact ps_24 hpp) ⟨by omega, by omega⟩ ?_ | refine by_tald rfl rfl ⟨by omega, by omega⟩ ?_
        refine by_iconst ci_m1 ?_
        refine by_iload_n rfl ?_
        refine by_aload_n rfl ?_
        refine by_getf cn_12 fl_0_21 (by first | exact rfl | assumption) (by decide) ?_
        refine by_iload_n rfl ?_
        simp (disch := first | exact Nat.ne_of_beq_eq_false rfl | exact rfl | omega) only [nI_add, xa_sub, xa_mul, pk_div, nm_mod, xa_shr, xa_and7, xa_and1, xa_and255, xa_by_and, nI_m1, Nat.add_sub_cancel, Nat.reducePow, Nat.zero_add, Nat.add_zero, Nat.reduceAdd, Nat.reduceMul, Nat.reduceSub, xf_same, xq_ff, xq_fo, xf_1, xf_2, xs_1, xs_2, xs_same, xq_so, xj_1, xj_2, xj_same, xq_jo, xq_sa1, xq_same, xq_other, upd_s, oI_n, oI_s, xf_22_0 hF, xf_22_1 hF, xf_22_3 hF, xf_22_4 hF, xf_22_6 hF, xf_22_7 hF, r1, r4, r5, r6, r7, ea]
        first | refine by_iald (by first | exact rfl | assumption | exact ps_1 hpp | exact ps_2 hpp | exact ps_3 hpp | exact ps_4 hpp | exact ps_5 hpp | exact ps_6 hpp | exact ps_7 hpp | exact ps_8 hpp | exact ps_9 hpp | exact ps_10 hpp | exact ps_11 hpp | exact ps_15 hpp | exact ps_16 hpp | exact ps_17 hpp | exact ps_18 hpp | exact ps_19 hpp | exact ps_21 hpp | exact ps_22 hpp | exact ps_23 hpp | exact ps_24 hpp) ⟨by omega, by omega⟩ ?_ | refine by_tald rfl rfl ⟨by omega, by omega⟩ ?_
        refine by_iadd ?_
        refine by_iconst ci_0 ?_
        refine by_iload_n rfl ?_
        refine by_aload_n rfl ?_
        refine by_getf cn_12 fl_0_33 (by first | exact rfl | assumption) (by decide) ?_
        refine by_iload_n rfl ?_
        simp (disch := first | exact Nat.ne_of_beq_eq_false rfl | exact rfl | omega) only [nI_add, xa_sub, xa_mul, pk_div, nm_mod, xa_shr, xa_and7, xa_and1, xa_and255, xa_by_and, nI_m1, Nat.add_sub_cancel, Nat.reducePow, Nat.zero_add, Nat.add_zero, Nat.reduceAdd, Nat.reduceMul, Nat.reduceSub, xf_same, xq_ff, xq_fo, xf_1, xf_2, xs_1, xs_2, xs_same, xq_so, xj_1, xj_2, xj_same, xq_jo, xq_sa1, xq_same, xq_other, upd_s, oI_n, oI_s, xf_22_0 hF, xf_22_1 hF, xf_22_3 hF, xf_22_4 hF, xf_22_6 hF, xf_22_7 hF, r1, r4, r5, r6, r7, ea]
        first | refine by_iald (by first | exact rfl | assumption | exact ps_1 hpp | exact ps_2 hpp | exact ps_3 hpp | exact ps_4 hpp | exact ps_5 hpp | exact ps_6 hpp | exact ps_7 hpp | exact ps_8 hpp | exact ps_9 hpp | exact ps_10 hpp | exact ps_11 hpp | exact ps_15 hpp | exact ps_16 hpp | exact ps_17 hpp | exact ps_18 hpp | exact ps_19 hpp | exact ps_21 hpp | exact ps_22 hpp | exact ps_23 hpp | exact ps_24 hpp) ⟨by omega, by omega⟩ ?_ | refine by_tald rfl rfl ⟨by omega, by omega⟩ ?_
        simp (disch := first | exact Nat.ne_of_beq_eq_false rfl | exact rfl | omega) only [nI_add, xa_sub, xa_mul, pk_div, nm_mod, xa_shr, xa_and7, xa_and1, xa_and255, xa_by_and, nI_m1, Nat.add_sub_cancel, Nat.reducePow, Nat.zero_add, Nat.add_zero, Nat.reduceAdd, Nat.reduceMul, Nat.reduceSub, xf_same, xq_ff, xq_fo, xf_1, xf_2, xs_1, xs_2, xs_same, xq_so, xj_1, xj_2, xj_same, xq_jo, xq_sa1, xq_same, xq_other, upd_s, oI_n, oI_s, xv_0, xv_1, xv_2, xv_3, xm_p1, xm_p2, xq_fp, xq_fn, List.filter_nil, Nat.reduceBEq, Bool.not_true, Bool.not_false, Bool.and_true, Bool.and_false, Bool.false_and, Bool.true_and, if_true, if_false, Bool.false_eq_true, reduceIte, xc_i, xc_j, xc_r, xc_n, List.nil_append, List.cons_append, Option.toList_some, Option.toList_none, xf_22_0 hF, xf_22_1 hF, xf_22_3 hF, xf_22_4 hF, xf_22_6 hF, xf_22_7 hF, r1, r4, r5, r6, r7, ea]
        refine by_inv7 cn_12 lk_0_43 (by rw [xe_cnt]; decide) is_0 np_0 cn_0 (by first | exact rfl | assumption) (Nat.le_of_ble_eq_true rfl) ?_
        refine sp_addI (6, g_a (G n), 0, k + g_k (G n), 0, k + g_s (G n), g_t (G n), (fun x => g_F (G n) (x.drop k)), g_q (G n)) hF hI hm (fun e => rfl) (fun e => absurd (id e : (6 : Nat) ≤ 2) (by decide)) (gW_6 hk w3 ⟨a1.1, Nat.lt_trans a1.2 v2⟩ (by omega) a4 w4 a5 (fun x hx => w1 _ (hl x hx)) (fun x hx => by rw [a8 _ (hl x hx), List.drop_drop])) (fun h1 G1 c1 F1 I1 e1 n1 _ => ?_)
        with_reducible refine xm_go_blk b_X0_drop_96 k_X0_drop_96 ?_
        refine by_iret ry_12 (by first | rfl | assumption) ?_
        exact hp h1 G1 c1 c F1 I1 e1 (nG_cg n1 rfl rfl (fun x hx => v5 _ (hl x hx)) hqd)
      · with_reducible refine xm_go_blk b_X0_drop_0 k_X0_drop_0 ?_
        refine by_iload_n rfl ?_
        refine by_aload_n rfl ?_
        refine by_getf cn_12 fl_0_30 (by first | exact rfl | assumption) (by decide) ?_
        refine by_iload_n rfl ?_
        simp (disch := first | exact Nat.ne_of_beq_eq_false rfl | exact rfl | omega) only [nI_add, xa_sub, xa_mul, pk_div, nm_mod, xa_shr, xa_and7, xa_and1, xa_and255, xa_by_and, nI_m1, Nat.add_sub_cancel, Nat.reducePow, Nat.zero_add, Nat.add_zero, Nat.reduceAdd, Nat.reduceMul, Nat.reduceSub, xf_same, xq_ff, xq_fo, xf_1, xf_2, xs_1, xs_2, xs_same, xq_so, xj_1, xj_2, xj_same, xq_jo, xq_sa1, xq_same, xq_other, upd_s, oI_n, oI_s, xf_22_0 hF, xf_22_1 hF, xf_22_3 hF, xf_22_4 hF, xf_22_6 hF, xf_22_7 hF, r1, r4, r5, r6, r7]
        first | refine by_iald (by first | exact rfl | assumption | exact ps_1 hpp | exact ps_2 hpp | exact ps_3 hpp | exact ps_4 hpp | exact ps_5 hpp | exact ps_6 hpp | exact ps_7 hpp | exact ps_8 hpp | exact ps_9 hpp | exact ps_10 hpp | exact ps_11 hpp | exact ps_15 hpp | exact ps_16 hpp | exact ps_17 hpp | exact ps_18 hpp | exact ps_19 hpp | exact ps_21 hpp | exact ps_22 hpp | exact ps_23 hpp | exact ps_24 hpp) ⟨by omega, by omega⟩ ?_ | refine by_tald rfl rfl ⟨by omega, by omega⟩ ?_
        refine by_iadd ?_
        refine by_istore_n (by rw [ml_12]; decide) ?_
        refine by_iload_n rfl ?_
        refine by_if_ne 15 rfl ?_
        simp (disch := first | exact Nat.ne_of_beq_eq_false rfl | exact rfl | omega) only [nI_add, xa_sub, xa_mul, pk_div, nm_mod, xa_shr, xa_and7, xa_and1, xa_and255, xa_by_and, nI_m1, Nat.add_sub_cancel, Nat.reducePow, Nat.zero_add, Nat.add_zero, Nat.reduceAdd, Nat.reduceMul, Nat.reduceSub, xf_same, xq_ff, xq_fo, xf_1, xf_2, xs_1, xs_2, xs_same, xq_so, xj_1, xj_2, xj_same, xq_jo, xq_sa1, xq_same, xq_other, upd_s, oI_n, oI_s, xv_0, xv_1, xv_2, xv_3, xm_p1, xm_p2, xq_fp, xq_fn, List.filter_nil, Nat.reduceBEq, Bool.not_true, Bool.not_false, Bool.and_true, Bool.and_false, Bool.false_and, Bool.true_and, if_true, if_false, Bool.false_eq_true, reduceIte, xc_i, xc_j, xc_r, xc_n, List.nil_append, List.cons_append, Option.toList_some, Option.toList_none, nI_ltJ, nI_leJ, nI_eqJ, nI_ltz, nI_gez, nI_gtz, nI_lez, nI_eqz, m1_ltz, m1_gez, true_imp_iff, false_imp_iff, true_and, and_true, ne_eq, not_false_eq_true, not_true_eq_false, Nat.reduceEqDiff, Nat.reduceLT, Nat.reduceLeDiff, xf_22_0 hF, xf_22_1 hF, xf_22_3 hF, xf_22_4 hF, xf_22_6 hF, xf_22_7 hF, r1, r4, r5, r6, r7]
        refine ⟨fun c0 => ?_, fun c => absurd (by omega) c⟩
        with_reducible refine xm_go_blk b_X0_drop_15 k_X0_drop_15 ?_
        refine by_aload_n rfl ?_
        refine by_getf cn_12 fl_0_11 (by first | exact rfl | assumption) (by decide) ?_
        refine by_iload_n rfl ?_
        simp (disch := first | exact Nat.ne_of_beq_eq_false rfl | exact rfl | omega) only [nI_add, xa_sub, xa_mul, pk_div, nm_mod, xa_shr, xa_and7, xa_and1, xa_and255, xa_by_and, nI_m1, Nat.add_sub_cancel, Nat.reducePow, Nat.zero_add, Nat.add_zero, Nat.reduceAdd, Nat.reduceMul, Nat.reduceSub, xf_same, xq_ff, xq_fo, xf_1, xf_2, xs_1, xs_2, xs_same, xq_so, xj_1, xj_2, xj_same, xq_jo, xq_sa1, xq_same, xq_other, upd_s, oI_n, oI_s, xf_22_0 hF, xf_22_1 hF, xf_22_3 hF, xf_22_4 hF, xf_22_6 hF, xf_22_7 hF, r1, r4, r5, r6, r7]
        first | refine by_iald (by first | exact rfl | assumption | exact ps_1 hpp | exact ps_2 hpp | exact ps_3 hpp | exact ps_4 hpp | exact ps_5 hpp | exact ps_6 hpp | exact ps_7 hpp | exact ps_8 hpp | exact ps_9 hpp | exact ps_10 hpp | exact ps_11 hpp | exact ps_15 hpp | exact ps_16 hpp | exact ps_17 hpp | exact ps_18 hpp | exact ps_19 hpp | exact ps_21 hpp | exact ps_22 hpp | exact ps_23 hpp | exact ps_24 hpp) ⟨by omega, by omega⟩ ?_ | refine by_tald rfl rfl ⟨by omega, by omega⟩ ?_
        refine by_bipush cb_7 ?_
        refine by_ic_ne 56 rfl ?_
        simp (disch := first | exact Nat.ne_of_beq_eq_false rfl | exact rfl | omega) only [nI_add, xa_sub, xa_mul, pk_div, nm_mod, xa_shr, xa_and7, xa_and1, xa_and255, xa_by_and, nI_m1, Nat.add_sub_cancel, Nat.reducePow, Nat.zero_add, Nat.add_zero, Nat.reduceAdd, Nat.reduceMul, Nat.reduceSub, xf_same, xq_ff, xq_fo, xf_1, xf_2, xs_1, xs_2, xs_same, xq_so, xj_1, xj_2, xj_same, xq_jo, xq_sa1, xq_same, xq_other, upd_s, oI_n, oI_s, xv_0, xv_1, xv_2, xv_3, xm_p1, xm_p2, xq_fp, xq_fn, List.filter_nil, Nat.reduceBEq, Bool.not_true, Bool.not_false, Bool.and_true, Bool.and_false, Bool.false_and, Bool.true_and, if_true, if_false, Bool.false_eq_true, reduceIte, xc_i, xc_j, xc_r, xc_n, List.nil_append, List.cons_append, Option.toList_some, Option.toList_none, nI_ltJ, nI_leJ, nI_eqJ, nI_ltz, nI_gez, nI_gtz, nI_lez, nI_eqz, m1_ltz, m1_gez, true_imp_iff, false_imp_iff, true_and, and_true, ne_eq, not_false_eq_true, not_true_eq_false, Nat.reduceEqDiff, Nat.reduceLT, Nat.reduceLeDiff, xf_22_0 hF, xf_22_1 hF, xf_22_3 hF, xf_22_4 hF, xf_22_6 hF, xf_22_7 hF, r1, r4, r5, r6, r7]
        refine ⟨fun c15 => ?_, fun c => absurd (by omega) c⟩
        with_reducible refine xm_go_blk b_X0_drop_56 k_X0_drop_56 ?_
        refine by_aload_n rfl ?_
        refine by_getf cn_12 fl_0_11 (by first | exact rfl | assumption) (by decide) ?_
        refine by_iload_n rfl ?_
        simp (disch := first | exact Nat.ne_of_beq_eq_false rfl | exact rfl | omega) only [nI_add, xa_sub, xa_mul, pk_div, nm_mod, xa_shr, xa_and7, xa_and1, xa_and255, xa_by_and, nI_m1, Nat.add_sub_cancel, Nat.reducePow, Nat.zero_add, Nat.add_zero, Nat.reduceAdd, Nat.reduceMul, Nat.reduceSub, xf_same, xq_ff, xq_fo, xf_1, xf_2, xs_1, xs_2, xs_same, xq_so, xj_1, xj_2, xj_same, xq_jo, xq_sa1, xq_same, xq_other, upd_s, oI_n, oI_s, xf_22_0 hF, xf_22_1 hF, xf_22_3 hF, xf_22_4 hF, xf_22_6 hF, xf_22_7 hF, r1, r4, r5, r6, r7]
        first | refine by_iald (by first | exact rfl | assumption | exact ps_1 hpp | exact ps_2 hpp | exact ps_3 hpp | exact ps_4 hpp | exact ps_5 hpp | exact ps_6 hpp | exact ps_7 hpp | exact ps_8 hpp | exact ps_9 hpp | exact ps_10 hpp | exact ps_11 hpp | exact ps_15 hpp | exact ps_16 hpp | exact ps_17 hpp | exact ps_18 hpp | exact ps_19 hpp | exact ps_21 hpp | exact ps_22 hpp | exact ps_23 hpp | exact ps_24 hpp) ⟨by omega, by omega⟩ ?_ | refine by_tald rfl rfl ⟨by omega, by omega⟩ ?_
        refine by_bipush cb_6 ?_
        refine by_ic_ne 97 rfl ?_
        simp (disch := first | exact Nat.ne_of_beq_eq_false rfl | exact rfl | omega) only [nI_add, xa_sub, xa_mul, pk_div, nm_mod, xa_shr, xa_and7, xa_and1, xa_and255, xa_by_and, nI_m1, Nat.add_sub_cancel, Nat.reducePow, Nat.zero_add, Nat.add_zero, Nat.reduceAdd, Nat.reduceMul, Nat.reduceSub, xf_same, xq_ff, xq_fo, xf_1, xf_2, xs_1, xs_2, xs_same, xq_so, xj_1, xj_2, xj_same, xq_jo, xq_sa1, xq_same, xq_other, upd_s, oI_n, oI_s, xv_0, xv_1, xv_2, xv_3, xm_p1, xm_p2, xq_fp, xq_fn, List.filter_nil, Nat.reduceBEq, Bool.not_true, Bool.not_false, Bool.and_true, Bool.and_false, Bool.false_and, Bool.true_and, if_true, if_false, Bool.false_eq_true, reduceIte, xc_i, xc_j, xc_r, xc_n, List.nil_append, List.cons_append, Option.toList_some, Option.toList_none, nI_ltJ, nI_leJ, nI_eqJ, nI_ltz, nI_gez, nI_gtz, nI_lez, nI_eqz, m1_ltz, m1_gez, true_imp_iff, false_imp_iff, true_and, and_true, ne_eq, not_false_eq_true, not_true_eq_false, Nat.reduceEqDiff, Nat.reduceLT, Nat.reduceLeDiff, xf_22_0 hF, xf_22_1 hF, xf_22_3 hF, xf_22_4 hF, xf_22_6 hF, xf_22_7 hF, r1, r4, r5, r6, r7]
        refine ⟨fun c56 => ?_, fun c => absurd (by omega) c⟩
        with_reducible refine xm_go_blk b_X0_drop_97 k_X0_drop_97 ?_
        refine by_aload_n rfl ?_
        refine by_bipush cb_6 ?_
        refine by_iload_n rfl ?_
        refine by_iconst ci_m1 ?_
        refine by_iload_n rfl ?_
        refine by_iconst ci_0 ?_
        refine by_iload_n rfl ?_
        refine by_aload_n rfl ?_
        refine by_getf cn_12 fl_0_33 (by first | exact rfl | assumption) (by decide) ?_
        refine by_iload_n rfl ?_
        simp (disch := first | exact Nat.ne_of_beq_eq_false rfl | exact rfl | omega) only [nI_add, xa_sub, xa_mul, pk_div, nm_mod, xa_shr, xa_and7, xa_and1, xa_and255, xa_by_and, nI_m1, Nat.add_sub_cancel, Nat.reducePow, Nat.zero_add, Nat.add_zero, Nat.reduceAdd, Nat.reduceMul, Nat.reduceSub, xf_same, xq_ff, xq_fo, xf_1, xf_2, xs_1, xs_2, xs_same, xq_so, xj_1, xj_2, xj_same, xq_jo, xq_sa1, xq_same, xq_other, upd_s, oI_n, oI_s, xf_22_0 hF, xf_22_1 hF, xf_22_3 hF, xf_22_4 hF, xf_22_6 hF, xf_22_7 hF, r1, r4, r5, r6, r7]
        first | refine by_iald (by first | exact rfl | assumption | exact ps_1 hpp | exact ps_2 hpp | exact ps_3 hpp | exact ps_4 hpp | exact ps_5 hpp | exact ps_6 hpp | exact ps_7 hpp | exact ps_8 hpp | exact ps_9 hpp | exact ps_10 hpp | exact ps_11 hpp | exact ps_15 hpp | exact ps_16 hpp | exact ps_17 hpp | exact ps_18 hpp | exact ps_19 hpp | exact ps_21 hpp | exact ps_22 hpp | exact ps_23 hpp | exact ps_24 hpp) ⟨by omega, by omega⟩ ?_ | refine by_tald rfl rfl ⟨by omega, by omega⟩ ?_
        simp (disch := first | exact Nat.ne_of_beq_eq_false rfl | exact rfl | omega) only [nI_add, xa_sub, xa_mul, pk_div, nm_mod, xa_shr, xa_and7, xa_and1, xa_and255, xa_by_and, nI_m1, Nat.add_sub_cancel, Nat.reducePow, Nat.zero_add, Nat.add_zero, Nat.reduceAdd, Nat.reduceMul, Nat.reduceSub, xf_same, xq_ff, xq_fo, xf_1, xf_2, xs_1, xs_2, xs_same, xq_so, xj_1, xj_2, xj_same, xq_jo, xq_sa1, xq_same, xq_other, upd_s, oI_n, oI_s, xv_0, xv_1, xv_2, xv_3, xm_p1, xm_p2, xq_fp, xq_fn, List.filter_nil, Nat.reduceBEq, Bool.not_true, Bool.not_false, Bool.and_true, Bool.and_false, Bool.false_and, Bool.true_and, if_true, if_false, Bool.false_eq_true, reduceIte, xc_i, xc_j, xc_r, xc_n, List.nil_append, List.cons_append, Option.toList_some, Option.toList_none, xf_22_0 hF, xf_22_1 hF, xf_22_3 hF, xf_22_4 hF, xf_22_6 hF, xf_22_7 hF, r1, r4, r5, r6, r7]
        refine by_inv7 cn_12 lk_0_43 (by rw [xe_cnt]; decide) is_0 np_0 cn_0 (by first | exact rfl | assumption) (Nat.le_of_ble_eq_true rfl) ?_
        refine sp_addI (6, n, 0, k, 0, k + g_s (G n), g_t (G n), (fun x => g_F (G n) (x.drop k)), qD (g_q (G n))) hF hI hm (fun e => rfl) (fun e => absurd (id e : (6 : Nat) ≤ 2) (by decide)) (gW_6 hk w3 ⟨v1, v2⟩ (Nat.le_refl _) rfl (by show 1 ≤ 1 + _; omega) (qle_rf _) (fun x hx => w1 _ (hl x hx)) (fun x hx => by rw [List.take_of_length_le (Nat.le_of_eq (hl x hx))])) (fun h1 G1 c1 F1 I1 e1 n1 _ => ?_)
        with_reducible refine xm_go_blk b_X0_drop_114 k_X0_drop_114 ?_
        refine by_iret ry_12 (by first | rfl | assumption) ?_
        exact hp h1 G1 c1 c F1 I1 e1 (nG_cg n1 rfl rfl (fun x hx => v5 _ (hl x hx)) ⟨by show 1 + _ ≤ 1 + _; have := v6.1; omega, v6.2.1, v6.2.2⟩)
end CD
