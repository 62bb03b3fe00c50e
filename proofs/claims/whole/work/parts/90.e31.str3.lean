/-! ===== strings: Row.putText ===== -/
set_option maxRecDepth 20000 in
theorem ggX8_putText_J0_length_8abf5 : GoodIn wsX8_putText wsJ0_length_8abf5 := goodIn_r _ [5, 6, 7, 8, 9, 4, 10, 11, 12] (by decide +kernel) (by decide +kernel)
set_option maxRecDepth 20000 in
theorem gX8_putText_J0_length_8abf5 : GoodIn wsX8_putText (wsV RX8 56 RJ0 yJ0_length_8abf5 wsJ0_length_8abf5) := goodIn_app (goodIn_of _ (by decide +kernel)) ggX8_putText_J0_length_8abf5
set_option maxRecDepth 20000 in
theorem ggX8_putText_J0_charAt_5068e : GoodIn wsX8_putText wsJ0_charAt_5068e := goodIn_r _ [16, 6, 17, 18, 19, 4, 20, 11, 12, 21, 22, 23, 24, 25, 26, 27, 28, 29, 30, 31, 32, 33, 34, 35, 36, 37, 38, 39, 40, 41, 42, 43, 44, 45, 46, 47, 48, 49] (by decide +kernel) (by decide +kernel)
set_option maxRecDepth 20000 in
theorem gX8_putText_J0_charAt_5068e : GoodIn wsX8_putText (wsV RX8 62 RJ0 yJ0_charAt_5068e wsJ0_charAt_5068e) := goodIn_app (goodIn_of _ (by decide +kernel)) ggX8_putText_J0_charAt_5068e
def b_X8_putText_2c : List (Nat × Jvm.ClassFile.Instr × Nat) := [(2, .iload_n 2, 1), (3, .aload_n 1, 1)]
set_option maxRecDepth 20000 in
theorem k_X8_putText_2c {sc : xm_Sc} : xm_bok (xe_cy (XE sc) 140) b_X8_putText_2c := by show xm_bok cX8_putText _; unfold xm_bok; decide +kernel
def b_X8_putText_10c : List (Nat × Jvm.ClassFile.Instr × Nat) := [(10, .aload_n 0, 1), (11, .aload_n 1, 1), (12, .iload_n 2, 1)]
set_option maxRecDepth 20000 in
theorem k_X8_putText_10c {sc : xm_Sc} : xm_bok (xe_cy (XE sc) 140) b_X8_putText_10c := by show xm_bok cX8_putText _; unfold xm_bok; decide +kernel
def b_X6_writeChild_4c : List (Nat × Jvm.ClassFile.Instr × Nat) := [(4, .aload_n 1, 1)]
set_option maxRecDepth 20000 in
theorem k_X6_writeChild_4c {sc : xm_Sc} : xm_bok (xe_cy (XE sc) 113) b_X6_writeChild_4c := by show xm_bok cX6_writeChild _; unfold xm_bok; decide +kernel
def b_X6_writeLine_11c : List (Nat × Jvm.ClassFile.Instr × Nat) := [(11, .aload_n 2, 1)]
set_option maxRecDepth 20000 in
theorem k_X6_writeLine_11c {sc : xm_Sc} : xm_bok (xe_cy (XE sc) 115) b_X6_writeLine_11c := by show xm_bok cX6_writeLine _; unfold xm_bok; decide +kernel
def b_X6_writeLine_31c : List (Nat × Jvm.ClassFile.Instr × Nat) := [(31, .aload_n 0, 1), (32, .getfield 15, 3), (35, .iload_n 1, 1), (36, .iaload, 1), (37, .aload_n 2, 1)]
set_option maxRecDepth 20000 in
theorem k_X6_writeLine_31c {sc : xm_Sc} : xm_bok (xe_cy (XE sc) 115) b_X6_writeLine_31c := by show xm_bok cX6_writeLine _; unfold xm_bok; decide +kernel
def b_X6_writeLine_41c : List (Nat × Jvm.ClassFile.Instr × Nat) := [(41, .aload_n 0, 1), (42, .getfield 18, 3), (45, .iload_n 1, 1), (46, .iaload, 1), (47, .aload_n 2, 1)]
set_option maxRecDepth 20000 in
theorem k_X6_writeLine_41c {sc : xm_Sc} : xm_bok (xe_cy (XE sc) 115) b_X6_writeLine_41c := by show xm_bok cX6_writeLine _; unfold xm_bok; decide +kernel
def b_X11_speak_50c : List (Nat × Jvm.ClassFile.Instr × Nat) := [(50, .aload_n 0, 1), (51, .getfield 71, 3), (54, .iload_n 1, 1), (55, .aload_n 0, 1), (56, .getfield 19, 3)]
set_option maxRecDepth 20000 in
theorem k_X11_speak_50c {sc : xm_Sc} : xm_bok (xe_cy (XE sc) 190) b_X11_speak_50c := by show xm_bok cX11_speak _; unfold xm_bok; decide +kernel
def xs_V : List Cond := xv_V ++ wsX8_putText
set_option maxRecDepth 100000 in
theorem xs_Vg : ∀ w ∈ xs_V, goodWord w = true := by decide +kernel
def xs_TF (sa V : Nat → Nat) (ad : Nat → Nat) (A : Nat → Prop) (s : State) : Prop := xv_TF sa A s ∧ xs_P (fun i => ad (300 + i)) V A s ∧ vk_R RX6 126 " = " (ad 300) s ∧ vk_R RX6 152 " n" (ad 301) s
theorem xs_TF_b {sa V : Nat → Nat} : ∀ ad A U g mk a, xs_TF sa V ad A U → xs_TF sa V ad A (State.calling U g mk a) := fun _ A U g mk a q => ⟨tf_b A U g mk a q.1, xs_P_b q.2.1, vk_R.same rfl q.2.2.1, vk_R.same rfl q.2.2.2⟩
theorem xs_TF_w {sa V : Nat → Nat} : ∀ ad A B (u U : State), u.WarmedH U.vm → (∀ a : Nat, a < u.heap.size → ¬ A a → U.heap[a]? = u.heap[a]?) → (∀ q, B q → A q) → xs_TF sa V ad A u → xs_TF sa V ad B U := fun _ A B u U hW hk hAB q => ⟨tf_w A B u U hW hk hAB q.1, xs_P_w hW.alike hk hAB q.2.1, vk_R.warm hW q.2.2.1, vk_R.warm hW q.2.2.2⟩
/-- String.length, String.charAt in Row.putText -/
def ex140 : xm_Q1 → xm_Q1 := fun P pc lv st h => (∃ i rest, pc = 4 ∧ i < 2 ∧ st = .ref (300 + i) :: rest ∧ (rest.map fun v => v.category).sum ≤ 8 ∧ P 7 lv (.int (nI (xsL i)) :: rest) h) ∨ (∃ i j rest, pc = 13 ∧ i < 2 ∧ j < xsL i ∧ st = .int (nI j) :: .ref (300 + i) :: rest ∧ (rest.map fun v => v.category).sum ≤ 8 ∧ P 16 lv (.int (xsB i j) :: rest) h)
theorem ex140_m : xm_mX ex140 := fun P Q hq pc lv st h q => by
  rcases q with ⟨i, rest, h1, h2, h3, h4, h5⟩ | ⟨i, j, rest, h1, h2, h3, h4, h5, h6⟩
  · exact Or.inl ⟨i, rest, h1, h2, h3, h4, hq _ _ _ _ h5⟩
  · exact Or.inr ⟨i, j, rest, h1, h2, h3, h4, h5, hq _ _ _ _ h6⟩
theorem ex_len {P : xm_Q1} {k i n : Nat} {lv : xm_L} {rest : List Value} {h : xm_H} (hk : k = 300 + i) (hi : i < 2) (hn : xsL i = n) (hc : (rest.map fun v => v.category).sum ≤ 8) (hp : P 7 lv (.int (nI n) :: rest) h) : ex140 P 4 lv (.ref k :: rest) h := by
  subst hk hn
  exact Or.inl ⟨i, rest, rfl, hi, rfl, hc, hp⟩
theorem ex_chr {P : xm_Q1} {k i j c : Nat} {lv : xm_L} {rest : List Value} {h : xm_H} (hk : k = 300 + i) (hi : i < 2) (hj : j < xsL i) (hn : xsB i j = nI c) (hc : (rest.map fun v => v.category).sum ≤ 8) (hp : P 16 lv (.int (nI c) :: rest) h) : ex140 P 13 lv (.int (nI j) :: .ref k :: rest) h := by
  subst hk
  rw [← hn] at hp
  exact Or.inr ⟨i, j, rest, rfl, hi, hj, rfl, hc, hp⟩
section SPT
variable {sc : xm_Sc} {d : Nat} {l : List Nat} {h : xm_H} {post : xm_Po}
set_option maxRecDepth 20000 in
theorem ex140_ok {la : Launch} {sa V : Nat → Nat} : xm_exs (XE sc) la xs_V (xs_TF sa V) d 0 140 ex140 := by
  intro p e R s m args below meth c cells slots Q D ad ks hx hb hml hown hUV hK hSF hTF hRf hRl hcs pc lv st h q
  have hb' : c.code = cX8_putText := hb
  have hown' : s.vm.findClass RX8 = some m.cls := hown
  have hW8 : ∀ w ∈ wsX8_putText, w.before args s = true := fun w hw => hUV w (List.mem_append_right _ (List.mem_append_right _ hw))
  have hP := hTF.2.1
  rcases q with ⟨i, rest, rfl, hi, rfl, hcats, hw⟩ | ⟨i, j, rest, rfl, hi, hj, rfl, hcats, hw⟩
  · intro H locs ls hR
    refine xs_csi (va_runV (As := []) (rest := rest.map (xm_v ad)) (b := ad (300 + i)) (C := RJ0) ⟨hx, hb', hml, hown', hW8⟩ (xs_length la (fun i => ad (300 + i)) V (xm_A ad (xe_sh (XE sc)).length s.heap.size) hi) (cwV 0 hW8 gX8_putText_J0_length_8abf5 rfl rfl rfl (by decide +kernel) ⟨by show 1 + 1 ≤ R.frames; omega, by show 8 + (1 + 11) + 40 ≤ R.locals; omega⟩) ⟨fun a U g mk q => ⟨q.1, xs_P_b q.2⟩, by obtain ⟨cell, h1, h2, h3, -⟩ := ((hP.1 i hi).1.kept hR.2.2.2.2.1); exact ⟨cell, h1, h2, h3⟩, fun U hU hW => ⟨rfl, xs_P_w hW.alike (by rw [hU]; exact hR.2.2.2.2.1) (fun _ z => z) hP⟩⟩ rfl rfl hR.1.1 rfl (lv_room (by rw [xm_cats]; exact hcats)) (by decide +kernel : decode cX8_putText 4 = .ok (.invokevirtual 56, 3)) hcs) (hw H locs ls hR)
  · intro H locs ls hR
    refine xs_csi (va_runV (As := [.int (nI j)]) (rest := rest.map (xm_v ad)) (b := ad (300 + i)) (C := RJ0) ⟨hx, hb', hml, hown', hW8⟩ (xs_charAt la (fun i => ad (300 + i)) V (xm_A ad (xe_sh (XE sc)).length s.heap.size) hi hj) (cwV 1 hW8 gX8_putText_J0_charAt_5068e rfl rfl rfl (by decide +kernel) ⟨by show 3 + 1 ≤ R.frames; omega, by show 8 + (2 + 11) + 120 ≤ R.locals; omega⟩) ⟨fun a U g mk q => ⟨q.1, xs_P_b q.2⟩, by obtain ⟨cell, h1, h2, h3, -⟩ := ((hP.1 i hi).1.kept hR.2.2.2.2.1); exact ⟨cell, h1, h2, h3⟩, fun U hU hW => ⟨rfl, xs_P_w hW.alike (by rw [hU]; exact hR.2.2.2.2.1) (fun _ z => z) hP⟩⟩ rfl rfl hR.1.1 rfl (lv_room (by rw [xm_cats]; exact hcats)) (by decide +kernel : decode cX8_putText 13 = .ok (.invokevirtual 62, 3)) hcs) (hw H locs ls hR)
def SP140 (sc : xm_Sc) (d : Nat) (as : List Value) (h : xm_H) (post : xm_Po) : Prop := (lg_sl as).length ≤ 3 ∧ xm_goY (XE sc) d 140 post (fun _ => none) (fun _ _ => False) ex140 0 (lv_args 0 as) [] h
theorem SP140_m : xm_mS (SP140 sc d) := fun _ _ _ _ hq z => ⟨z.1, xy_mono hq z.2⟩
theorem SP140_M {la : Launch} {sa V : Nat → Nat} : xm_spM (XE sc) la xs_V (xs_TF sa V) d 0 140 (SP140 sc d) := fun _ _ _ z D ad ks sz => xm_metN (XE_ok sc) (by rw [xe_cnt]; decide) ex140_ok (by rw [ml_140]; exact z.1) z.2 D ad ks sz
theorem sp_putText0 (hF : XF h) (hl : penIs h l) (hp : ∀ h', Fr [6] [(5, 1), (5, 2)] h h' → penIs h' (l ++ [32, 61, 32]) → post none h') : SP140 sc (d + 1) [.ref 5, .ref 300] h post := by
  refine ⟨by decide, ?_⟩
  show xm_goY (XE sc) (d + 1) 140 post (fun _ => none) (fun _ _ => False) ex140 0 [(0, .ref 5), (1, .ref 300)] [] h
  with_reducible refine xy_blk b_X8_putText_0 k_X8_putText_0 ?_
  refine by_iconst ci_0 ?_
  refine by_istore_n (by rw [ml_140]; decide) ?_
  refine by_nil ?_
  try simp (disch := first | exact Nat.ne_of_beq_eq_false rfl | exact rfl | omega) only [nI_add, xa_sub, xa_mul, pk_div, nm_mod, xa_shr, xa_and7, xa_and1, xa_and255, xa_by_and, nI_m1, Nat.add_sub_cancel, Nat.reducePow, Nat.zero_add, Nat.add_zero, Nat.reduceAdd, Nat.reduceMul, Nat.reduceSub, xf_same, xq_ff, xq_fo, xf_1, xf_2, xs_1, xs_2, xs_same, xq_so, xj_1, xj_2, xj_same, xq_jo, xq_sa1, xq_same, xq_other, upd_s, oI_n, oI_s, xv_0, xv_1, xv_2, xv_3, xm_p1, xm_p2, xq_fp, xq_fn, List.filter_nil, Nat.reduceBEq, Bool.not_true, Bool.not_false, Bool.and_true, Bool.and_false, Bool.false_and, Bool.true_and, if_true, if_false, Bool.false_eq_true, reduceIte, xc_i, xc_j, xc_r, xc_n, List.nil_append, List.cons_append, Option.toList_some, Option.toList_none]
  with_reducible refine xy_blk b_X8_putText_2c k_X8_putText_2c ?_
  refine by_iload_n rfl ?_
  refine by_aload_n rfl ?_
  refine by_nil ?_
  refine xy_ex ex140_m (ex_len (i := 0) (n := 3) rfl (by decide) rfl (by decide) ?_)
  with_reducible refine xy_blk b_X8_putText_7 k_X8_putText_7 ?_
  refine by_ic_ge 25 rfl ?_
  simp (disch := first | exact Nat.ne_of_beq_eq_false rfl | exact rfl | omega) only [nI_add, xa_sub, xa_mul, pk_div, nm_mod, xa_shr, xa_and7, xa_and1, xa_and255, xa_by_and, nI_m1, Nat.add_sub_cancel, Nat.reducePow, Nat.zero_add, Nat.add_zero, Nat.reduceAdd, Nat.reduceMul, Nat.reduceSub, xf_same, xq_ff, xq_fo, xf_1, xf_2, xs_1, xs_2, xs_same, xq_so, xj_1, xj_2, xj_same, xq_jo, xq_sa1, xq_same, xq_other, upd_s, oI_n, oI_s, xv_0, xv_1, xv_2, xv_3, xm_p1, xm_p2, xq_fp, xq_fn, List.filter_nil, Nat.reduceBEq, Bool.not_true, Bool.not_false, Bool.and_true, Bool.and_false, Bool.false_and, Bool.true_and, if_true, if_false, Bool.false_eq_true, reduceIte, xc_i, xc_j, xc_r, xc_n, List.nil_append, List.cons_append, Option.toList_some, Option.toList_none, nI_ltJ, nI_leJ, nI_eqJ, nI_ltz, nI_gez, nI_gtz, nI_lez, nI_eqz, m1_ltz, m1_gez, true_imp_iff, false_imp_iff, true_and, and_true, ne_eq, not_false_eq_true, not_true_eq_false, Nat.reduceEqDiff, Nat.reduceLT, Nat.reduceLeDiff]
  with_reducible refine xy_blk b_X8_putText_10c k_X8_putText_10c ?_
  refine by_aload_n rfl ?_
  refine by_aload_n rfl ?_
  refine by_iload_n rfl ?_
  refine by_nil ?_
  refine xy_ex ex140_m (ex_chr (i := 0) (c := 32) rfl (by decide) (by decide) (by decide) (by decide) ?_)
  with_reducible refine xy_blk b_X8_putText_16 k_X8_putText_16 ?_
  refine by_inv1 cn_140 lk_8_42 (by rw [xe_cnt]; decide) is_133 np_133 cn_133 (by first | exact rfl | assumption | exact ps_12 hpp) (Nat.le_of_ble_eq_true rfl) ?_
  refine sp_pen hF hl (by omega) (fun h1 f1 m1 => ?_)
  have F1 := Fr_XF hF f1 (by decide +kernel)
  with_reducible refine xy_blk b_X8_putText_19 k_X8_putText_19 ?_
  refine by_iinc (by rw [ml_140]; decide) rfl ci_1 ?_
  refine by_goto 2 rfl ?_
  try simp (disch := first | exact Nat.ne_of_beq_eq_false rfl | exact rfl | omega) only [nI_add, xa_sub, xa_mul, pk_div, nm_mod, xa_shr, xa_and7, xa_and1, xa_and255, xa_by_and, nI_m1, Nat.add_sub_cancel, Nat.reducePow, Nat.zero_add, Nat.add_zero, Nat.reduceAdd, Nat.reduceMul, Nat.reduceSub, xf_same, xq_ff, xq_fo, xf_1, xf_2, xs_1, xs_2, xs_same, xq_so, xj_1, xj_2, xj_same, xq_jo, xq_sa1, xq_same, xq_other, upd_s, oI_n, oI_s, xv_0, xv_1, xv_2, xv_3, xm_p1, xm_p2, xq_fp, xq_fn, List.filter_nil, Nat.reduceBEq, Bool.not_true, Bool.not_false, Bool.and_true, Bool.and_false, Bool.false_and, Bool.true_and, if_true, if_false, Bool.false_eq_true, reduceIte, xc_i, xc_j, xc_r, xc_n, List.nil_append, List.cons_append, Option.toList_some, Option.toList_none]
  with_reducible refine xy_blk b_X8_putText_2c k_X8_putText_2c ?_
  refine by_iload_n rfl ?_
  refine by_aload_n rfl ?_
  refine by_nil ?_
  refine xy_ex ex140_m (ex_len (i := 0) (n := 3) rfl (by decide) rfl (by decide) ?_)
  with_reducible refine xy_blk b_X8_putText_7 k_X8_putText_7 ?_
  refine by_ic_ge 25 rfl ?_
  simp (disch := first | exact Nat.ne_of_beq_eq_false rfl | exact rfl | omega) only [nI_add, xa_sub, xa_mul, pk_div, nm_mod, xa_shr, xa_and7, xa_and1, xa_and255, xa_by_and, nI_m1, Nat.add_sub_cancel, Nat.reducePow, Nat.zero_add, Nat.add_zero, Nat.reduceAdd, Nat.reduceMul, Nat.reduceSub, xf_same, xq_ff, xq_fo, xf_1, xf_2, xs_1, xs_2, xs_same, xq_so, xj_1, xj_2, xj_same, xq_jo, xq_sa1, xq_same, xq_other, upd_s, oI_n, oI_s, xv_0, xv_1, xv_2, xv_3, xm_p1, xm_p2, xq_fp, xq_fn, List.filter_nil, Nat.reduceBEq, Bool.not_true, Bool.not_false, Bool.and_true, Bool.and_false, Bool.false_and, Bool.true_and, if_true, if_false, Bool.false_eq_true, reduceIte, xc_i, xc_j, xc_r, xc_n, List.nil_append, List.cons_append, Option.toList_some, Option.toList_none, nI_ltJ, nI_leJ, nI_eqJ, nI_ltz, nI_gez, nI_gtz, nI_lez, nI_eqz, m1_ltz, m1_gez, true_imp_iff, false_imp_iff, true_and, and_true, ne_eq, not_false_eq_true, not_true_eq_false, Nat.reduceEqDiff, Nat.reduceLT, Nat.reduceLeDiff]
  with_reducible refine xy_blk b_X8_putText_10c k_X8_putText_10c ?_
  refine by_aload_n rfl ?_
  refine by_aload_n rfl ?_
  refine by_iload_n rfl ?_
  refine by_nil ?_
  refine xy_ex ex140_m (ex_chr (i := 0) (c := 61) rfl (by decide) (by decide) (by decide) (by decide) ?_)
  with_reducible refine xy_blk b_X8_putText_16 k_X8_putText_16 ?_
  refine by_inv1 cn_140 lk_8_42 (by rw [xe_cnt]; decide) is_133 np_133 cn_133 (by first | exact rfl | assumption | exact ps_12 hpp) (Nat.le_of_ble_eq_true rfl) ?_
  refine sp_pen F1 m1 (by omega) (fun h2 f2 m2 => ?_)
  have F2 := Fr_XF F1 f2 (by decide +kernel)
  with_reducible refine xy_blk b_X8_putText_19 k_X8_putText_19 ?_
  refine by_iinc (by rw [ml_140]; decide) rfl ci_1 ?_
  refine by_goto 2 rfl ?_
  try simp (disch := first | exact Nat.ne_of_beq_eq_false rfl | exact rfl | omega) only [nI_add, xa_sub, xa_mul, pk_div, nm_mod, xa_shr, xa_and7, xa_and1, xa_and255, xa_by_and, nI_m1, Nat.add_sub_cancel, Nat.reducePow, Nat.zero_add, Nat.add_zero, Nat.reduceAdd, Nat.reduceMul, Nat.reduceSub, xf_same, xq_ff, xq_fo, xf_1, xf_2, xs_1, xs_2, xs_same, xq_so, xj_1, xj_2, xj_same, xq_jo, xq_sa1, xq_same, xq_other, upd_s, oI_n, oI_s, xv_0, xv_1, xv_2, xv_3, xm_p1, xm_p2, xq_fp, xq_fn, List.filter_nil, Nat.reduceBEq, Bool.not_true, Bool.not_false, Bool.and_true, Bool.and_false, Bool.false_and, Bool.true_and, if_true, if_false, Bool.false_eq_true, reduceIte, xc_i, xc_j, xc_r, xc_n, List.nil_append, List.cons_append, Option.toList_some, Option.toList_none]
  with_reducible refine xy_blk b_X8_putText_2c k_X8_putText_2c ?_
  refine by_iload_n rfl ?_
  refine by_aload_n rfl ?_
  refine by_nil ?_
  refine xy_ex ex140_m (ex_len (i := 0) (n := 3) rfl (by decide) rfl (by decide) ?_)
  with_reducible refine xy_blk b_X8_putText_7 k_X8_putText_7 ?_
  refine by_ic_ge 25 rfl ?_
  simp (disch := first | exact Nat.ne_of_beq_eq_false rfl | exact rfl | omega) only [nI_add, xa_sub, xa_mul, pk_div, nm_mod, xa_shr, xa_and7, xa_and1, xa_and255, xa_by_and, nI_m1, Nat.add_sub_cancel, Nat.reducePow, Nat.zero_add, Nat.add_zero, Nat.reduceAdd, Nat.reduceMul, Nat.reduceSub, xf_same, xq_ff, xq_fo, xf_1, xf_2, xs_1, xs_2, xs_same, xq_so, xj_1, xj_2, xj_same, xq_jo, xq_sa1, xq_same, xq_other, upd_s, oI_n, oI_s, xv_0, xv_1, xv_2, xv_3, xm_p1, xm_p2, xq_fp, xq_fn, List.filter_nil, Nat.reduceBEq, Bool.not_true, Bool.not_false, Bool.and_true, Bool.and_false, Bool.false_and, Bool.true_and, if_true, if_false, Bool.false_eq_true, reduceIte, xc_i, xc_j, xc_r, xc_n, List.nil_append, List.cons_append, Option.toList_some, Option.toList_none, nI_ltJ, nI_leJ, nI_eqJ, nI_ltz, nI_gez, nI_gtz, nI_lez, nI_eqz, m1_ltz, m1_gez, true_imp_iff, false_imp_iff, true_and, and_true, ne_eq, not_false_eq_true, not_true_eq_false, Nat.reduceEqDiff, Nat.reduceLT, Nat.reduceLeDiff]
  with_reducible refine xy_blk b_X8_putText_10c k_X8_putText_10c ?_
  refine by_aload_n rfl ?_
  refine by_aload_n rfl ?_
  refine by_iload_n rfl ?_
  refine by_nil ?_
  refine xy_ex ex140_m (ex_chr (i := 0) (c := 32) rfl (by decide) (by decide) (by decide) (by decide) ?_)
  with_reducible refine xy_blk b_X8_putText_16 k_X8_putText_16 ?_
  refine by_inv1 cn_140 lk_8_42 (by rw [xe_cnt]; decide) is_133 np_133 cn_133 (by first | exact rfl | assumption | exact ps_12 hpp) (Nat.le_of_ble_eq_true rfl) ?_
  refine sp_pen F2 m2 (by omega) (fun h3 f3 m3 => ?_)
  with_reducible refine xy_blk b_X8_putText_19 k_X8_putText_19 ?_
  refine by_iinc (by rw [ml_140]; decide) rfl ci_1 ?_
  refine by_goto 2 rfl ?_
  try simp (disch := first | exact Nat.ne_of_beq_eq_false rfl | exact rfl | omega) only [nI_add, xa_sub, xa_mul, pk_div, nm_mod, xa_shr, xa_and7, xa_and1, xa_and255, xa_by_and, nI_m1, Nat.add_sub_cancel, Nat.reducePow, Nat.zero_add, Nat.add_zero, Nat.reduceAdd, Nat.reduceMul, Nat.reduceSub, xf_same, xq_ff, xq_fo, xf_1, xf_2, xs_1, xs_2, xs_same, xq_so, xj_1, xj_2, xj_same, xq_jo, xq_sa1, xq_same, xq_other, upd_s, oI_n, oI_s, xv_0, xv_1, xv_2, xv_3, xm_p1, xm_p2, xq_fp, xq_fn, List.filter_nil, Nat.reduceBEq, Bool.not_true, Bool.not_false, Bool.and_true, Bool.and_false, Bool.false_and, Bool.true_and, if_true, if_false, Bool.false_eq_true, reduceIte, xc_i, xc_j, xc_r, xc_n, List.nil_append, List.cons_append, Option.toList_some, Option.toList_none]
  with_reducible refine xy_blk b_X8_putText_2c k_X8_putText_2c ?_
  refine by_iload_n rfl ?_
  refine by_aload_n rfl ?_
  refine by_nil ?_
  refine xy_ex ex140_m (ex_len (i := 0) (n := 3) rfl (by decide) rfl (by decide) ?_)
  with_reducible refine xy_blk b_X8_putText_7 k_X8_putText_7 ?_
  refine by_ic_ge 25 rfl ?_
  simp (disch := first | exact Nat.ne_of_beq_eq_false rfl | exact rfl | omega) only [nI_add, xa_sub, xa_mul, pk_div, nm_mod, xa_shr, xa_and7, xa_and1, xa_and255, xa_by_and, nI_m1, Nat.add_sub_cancel, Nat.reducePow, Nat.zero_add, Nat.add_zero, Nat.reduceAdd, Nat.reduceMul, Nat.reduceSub, xf_same, xq_ff, xq_fo, xf_1, xf_2, xs_1, xs_2, xs_same, xq_so, xj_1, xj_2, xj_same, xq_jo, xq_sa1, xq_same, xq_other, upd_s, oI_n, oI_s, xv_0, xv_1, xv_2, xv_3, xm_p1, xm_p2, xq_fp, xq_fn, List.filter_nil, Nat.reduceBEq, Bool.not_true, Bool.not_false, Bool.and_true, Bool.and_false, Bool.false_and, Bool.true_and, if_true, if_false, Bool.false_eq_true, reduceIte, xc_i, xc_j, xc_r, xc_n, List.nil_append, List.cons_append, Option.toList_some, Option.toList_none, nI_ltJ, nI_leJ, nI_eqJ, nI_ltz, nI_gez, nI_gtz, nI_lez, nI_eqz, m1_ltz, m1_gez, true_imp_iff, false_imp_iff, true_and, and_true, ne_eq, not_false_eq_true, not_true_eq_false, Nat.reduceEqDiff, Nat.reduceLT, Nat.reduceLeDiff]
  with_reducible refine xy_blk b_X8_putText_25 k_X8_putText_25 ?_
  refine by_ret ry_140 ?_
  exact hp h3 (Fr_tr (Fr_tr f1 f2 (fun _ z => z) (fun _ z => z)) f3 (fun _ z => z) (fun _ z => z)) (by simpa using m3)
theorem sp_putText1 (hF : XF h) (hl : penIs h l) (hp : ∀ h', Fr [6] [(5, 1), (5, 2)] h h' → penIs h' (l ++ [32, 110]) → post none h') : SP140 sc (d + 1) [.ref 5, .ref 301] h post := by
  refine ⟨by decide, ?_⟩
  show xm_goY (XE sc) (d + 1) 140 post (fun _ => none) (fun _ _ => False) ex140 0 [(0, .ref 5), (1, .ref 301)] [] h
  with_reducible refine xy_blk b_X8_putText_0 k_X8_putText_0 ?_
  refine by_iconst ci_0 ?_
  refine by_istore_n (by rw [ml_140]; decide) ?_
  refine by_nil ?_
  try simp (disch := first | exact Nat.ne_of_beq_eq_false rfl | exact rfl | omega) only [nI_add, xa_sub, xa_mul, pk_div, nm_mod, xa_shr, xa_and7, xa_and1, xa_and255, xa_by_and, nI_m1, Nat.add_sub_cancel, Nat.reducePow, Nat.zero_add, Nat.add_zero, Nat.reduceAdd, Nat.reduceMul, Nat.reduceSub, xf_same, xq_ff, xq_fo, xf_1, xf_2, xs_1, xs_2, xs_same, xq_so, xj_1, xj_2, xj_same, xq_jo, xq_sa1, xq_same, xq_other, upd_s, oI_n, oI_s, xv_0, xv_1, xv_2, xv_3, xm_p1, xm_p2, xq_fp, xq_fn, List.filter_nil, Nat.reduceBEq, Bool.not_true, Bool.not_false, Bool.and_true, Bool.and_false, Bool.false_and, Bool.true_and, if_true, if_false, Bool.false_eq_true, reduceIte, xc_i, xc_j, xc_r, xc_n, List.nil_append, List.cons_append, Option.toList_some, Option.toList_none]
  with_reducible refine xy_blk b_X8_putText_2c k_X8_putText_2c ?_
  refine by_iload_n rfl ?_
  refine by_aload_n rfl ?_
  refine by_nil ?_
  refine xy_ex ex140_m (ex_len (i := 1) (n := 2) rfl (by decide) rfl (by decide) ?_)
  with_reducible refine xy_blk b_X8_putText_7 k_X8_putText_7 ?_
  refine by_ic_ge 25 rfl ?_
  simp (disch := first | exact Nat.ne_of_beq_eq_false rfl | exact rfl | omega) only [nI_add, xa_sub, xa_mul, pk_div, nm_mod, xa_shr, xa_and7, xa_and1, xa_and255, xa_by_and, nI_m1, Nat.add_sub_cancel, Nat.reducePow, Nat.zero_add, Nat.add_zero, Nat.reduceAdd, Nat.reduceMul, Nat.reduceSub, xf_same, xq_ff, xq_fo, xf_1, xf_2, xs_1, xs_2, xs_same, xq_so, xj_1, xj_2, xj_same, xq_jo, xq_sa1, xq_same, xq_other, upd_s, oI_n, oI_s, xv_0, xv_1, xv_2, xv_3, xm_p1, xm_p2, xq_fp, xq_fn, List.filter_nil, Nat.reduceBEq, Bool.not_true, Bool.not_false, Bool.and_true, Bool.and_false, Bool.false_and, Bool.true_and, if_true, if_false, Bool.false_eq_true, reduceIte, xc_i, xc_j, xc_r, xc_n, List.nil_append, List.cons_append, Option.toList_some, Option.toList_none, nI_ltJ, nI_leJ, nI_eqJ, nI_ltz, nI_gez, nI_gtz, nI_lez, nI_eqz, m1_ltz, m1_gez, true_imp_iff, false_imp_iff, true_and, and_true, ne_eq, not_false_eq_true, not_true_eq_false, Nat.reduceEqDiff, Nat.reduceLT, Nat.reduceLeDiff]
  with_reducible refine xy_blk b_X8_putText_10c k_X8_putText_10c ?_
  refine by_aload_n rfl ?_
  refine by_aload_n rfl ?_
  refine by_iload_n rfl ?_
  refine by_nil ?_
  refine xy_ex ex140_m (ex_chr (i := 1) (c := 32) rfl (by decide) (by decide) (by decide) (by decide) ?_)
  with_reducible refine xy_blk b_X8_putText_16 k_X8_putText_16 ?_
  refine by_inv1 cn_140 lk_8_42 (by rw [xe_cnt]; decide) is_133 np_133 cn_133 (by first | exact rfl | assumption | exact ps_12 hpp) (Nat.le_of_ble_eq_true rfl) ?_
  refine sp_pen hF hl (by omega) (fun h1 f1 m1 => ?_)
  have F1 := Fr_XF hF f1 (by decide +kernel)
  with_reducible refine xy_blk b_X8_putText_19 k_X8_putText_19 ?_
  refine by_iinc (by rw [ml_140]; decide) rfl ci_1 ?_
  refine by_goto 2 rfl ?_
  try simp (disch := first | exact Nat.ne_of_beq_eq_false rfl | exact rfl | omega) only [nI_add, xa_sub, xa_mul, pk_div, nm_mod, xa_shr, xa_and7, xa_and1, xa_and255, xa_by_and, nI_m1, Nat.add_sub_cancel, Nat.reducePow, Nat.zero_add, Nat.add_zero, Nat.reduceAdd, Nat.reduceMul, Nat.reduceSub, xf_same, xq_ff, xq_fo, xf_1, xf_2, xs_1, xs_2, xs_same, xq_so, xj_1, xj_2, xj_same, xq_jo, xq_sa1, xq_same, xq_other, upd_s, oI_n, oI_s, xv_0, xv_1, xv_2, xv_3, xm_p1, xm_p2, xq_fp, xq_fn, List.filter_nil, Nat.reduceBEq, Bool.not_true, Bool.not_false, Bool.and_true, Bool.and_false, Bool.false_and, Bool.true_and, if_true, if_false, Bool.false_eq_true, reduceIte, xc_i, xc_j, xc_r, xc_n, List.nil_append, List.cons_append, Option.toList_some, Option.toList_none]
  with_reducible refine xy_blk b_X8_putText_2c k_X8_putText_2c ?_
  refine by_iload_n rfl ?_
  refine by_aload_n rfl ?_
  refine by_nil ?_
  refine xy_ex ex140_m (ex_len (i := 1) (n := 2) rfl (by decide) rfl (by decide) ?_)
  with_reducible refine xy_blk b_X8_putText_7 k_X8_putText_7 ?_
  refine by_ic_ge 25 rfl ?_
  simp (disch := first | exact Nat.ne_of_beq_eq_false rfl | exact rfl | omega) only [nI_add, xa_sub, xa_mul, pk_div, nm_mod, xa_shr, xa_and7, xa_and1, xa_and255, xa_by_and, nI_m1, Nat.add_sub_cancel, Nat.reducePow, Nat.zero_add, Nat.add_zero, Nat.reduceAdd, Nat.reduceMul, Nat.reduceSub, xf_same, xq_ff, xq_fo, xf_1, xf_2, xs_1, xs_2, xs_same, xq_so, xj_1, xj_2, xj_same, xq_jo, xq_sa1, xq_same, xq_other, upd_s, oI_n, oI_s, xv_0, xv_1, xv_2, xv_3, xm_p1, xm_p2, xq_fp, xq_fn, List.filter_nil, Nat.reduceBEq, Bool.not_true, Bool.not_false, Bool.and_true, Bool.and_false, Bool.false_and, Bool.true_and, if_true, if_false, Bool.false_eq_true, reduceIte, xc_i, xc_j, xc_r, xc_n, List.nil_append, List.cons_append, Option.toList_some, Option.toList_none, nI_ltJ, nI_leJ, nI_eqJ, nI_ltz, nI_gez, nI_gtz, nI_lez, nI_eqz, m1_ltz, m1_gez, true_imp_iff, false_imp_iff, true_and, and_true, ne_eq, not_false_eq_true, not_true_eq_false, Nat.reduceEqDiff, Nat.reduceLT, Nat.reduceLeDiff]
  with_reducible refine xy_blk b_X8_putText_10c k_X8_putText_10c ?_
  refine by_aload_n rfl ?_
  refine by_aload_n rfl ?_
  refine by_iload_n rfl ?_
  refine by_nil ?_
  refine xy_ex ex140_m (ex_chr (i := 1) (c := 110) rfl (by decide) (by decide) (by decide) (by decide) ?_)
  with_reducible refine xy_blk b_X8_putText_16 k_X8_putText_16 ?_
  refine by_inv1 cn_140 lk_8_42 (by rw [xe_cnt]; decide) is_133 np_133 cn_133 (by first | exact rfl | assumption | exact ps_12 hpp) (Nat.le_of_ble_eq_true rfl) ?_
  refine sp_pen F1 m1 (by omega) (fun h2 f2 m2 => ?_)
  with_reducible refine xy_blk b_X8_putText_19 k_X8_putText_19 ?_
  refine by_iinc (by rw [ml_140]; decide) rfl ci_1 ?_
  refine by_goto 2 rfl ?_
  try simp (disch := first | exact Nat.ne_of_beq_eq_false rfl | exact rfl | omega) only [nI_add, xa_sub, xa_mul, pk_div, nm_mod, xa_shr, xa_and7, xa_and1, xa_and255, xa_by_and, nI_m1, Nat.add_sub_cancel, Nat.reducePow, Nat.zero_add, Nat.add_zero, Nat.reduceAdd, Nat.reduceMul, Nat.reduceSub, xf_same, xq_ff, xq_fo, xf_1, xf_2, xs_1, xs_2, xs_same, xq_so, xj_1, xj_2, xj_same, xq_jo, xq_sa1, xq_same, xq_other, upd_s, oI_n, oI_s, xv_0, xv_1, xv_2, xv_3, xm_p1, xm_p2, xq_fp, xq_fn, List.filter_nil, Nat.reduceBEq, Bool.not_true, Bool.not_false, Bool.and_true, Bool.and_false, Bool.false_and, Bool.true_and, if_true, if_false, Bool.false_eq_true, reduceIte, xc_i, xc_j, xc_r, xc_n, List.nil_append, List.cons_append, Option.toList_some, Option.toList_none]
  with_reducible refine xy_blk b_X8_putText_2c k_X8_putText_2c ?_
  refine by_iload_n rfl ?_
  refine by_aload_n rfl ?_
  refine by_nil ?_
  refine xy_ex ex140_m (ex_len (i := 1) (n := 2) rfl (by decide) rfl (by decide) ?_)
  with_reducible refine xy_blk b_X8_putText_7 k_X8_putText_7 ?_
  refine by_ic_ge 25 rfl ?_
  simp (disch := first | exact Nat.ne_of_beq_eq_false rfl | exact rfl | omega) only [nI_add, xa_sub, xa_mul, pk_div, nm_mod, xa_shr, xa_and7, xa_and1, xa_and255, xa_by_and, nI_m1, Nat.add_sub_cancel, Nat.reducePow, Nat.zero_add, Nat.add_zero, Nat.reduceAdd, Nat.reduceMul, Nat.reduceSub, xf_same, xq_ff, xq_fo, xf_1, xf_2, xs_1, xs_2, xs_same, xq_so, xj_1, xj_2, xj_same, xq_jo, xq_sa1, xq_same, xq_other, upd_s, oI_n, oI_s, xv_0, xv_1, xv_2, xv_3, xm_p1, xm_p2, xq_fp, xq_fn, List.filter_nil, Nat.reduceBEq, Bool.not_true, Bool.not_false, Bool.and_true, Bool.and_false, Bool.false_and, Bool.true_and, if_true, if_false, Bool.false_eq_true, reduceIte, xc_i, xc_j, xc_r, xc_n, List.nil_append, List.cons_append, Option.toList_some, Option.toList_none, nI_ltJ, nI_leJ, nI_eqJ, nI_ltz, nI_gez, nI_gtz, nI_lez, nI_eqz, m1_ltz, m1_gez, true_imp_iff, false_imp_iff, true_and, and_true, ne_eq, not_false_eq_true, not_true_eq_false, Nat.reduceEqDiff, Nat.reduceLT, Nat.reduceLeDiff]
  with_reducible refine xy_blk b_X8_putText_25 k_X8_putText_25 ?_
  refine by_ret ry_140 ?_
  exact hp h2 (Fr_tr f1 f2 (fun _ z => z) (fun _ z => z)) (by simpa using m2)
end SPT
