/-! ===== the law: its helpers ===== -/
theorem xy_mono2 {E : xm_E} {d y : Nat} {post post' : xm_Po} {tw : Nat → Option String} {px px' : String → xm_H → Prop} {ex : xm_Q1 → xm_Q1} {pc : Nat} {lv : xm_L} {st : List Value} {h0 : xm_H} (hp : ∀ r h', post r h' → post' r h') (hx : ∀ X h', px X h' → px' X h') (h : xm_goY E d y post tw px ex pc lv st h0) : xm_goY E d y post' tw px' ex pc lv st h0 :=
  fun P hP hw ht he => h P (fun _ _ _ _ q => hP _ _ _ _ (xm_one_mono (xm_T_mono d d (Nat.le_refl _)) hp (fun _ _ _ _ z => z) q)) hw (fun pc lv h X h1 h2 => ht pc lv h X h1 (hx X h h2)) he
section HL
variable {sc : xm_Sc} {d : Nat} {h : xm_H} {post : xm_Po}
theorem hl_feed {p : Int32} {v : Int64} (hgo : xm_goX (XE sc) (xm_T (XE sc) d) 179 (fun r h' => ∃ v, r = some (.int v) ∧ post (some (.int (nI 0))) (xm_sl h' 163 0 v.toInt64)) tw_X11_feed (fun X h' => (X = "java/lang/IllegalArgumentException" ∧ post (some (.int (nI 1))) h') ∨ (X = "java/lang/IllegalStateException" ∧ post (some (.int (nI 2))) h')) 0 [(0, .ref 0), (1, .int p), (2, .long v)] [] h) : xm_goH (XE sc) d 333 179 6 tw_X11_feed hp_feed post 0 (lv_args 0 [.ref 0, .int p, .long v, .ref 163]) [] h := by
  simp only [xq_a0, xq_aI, xq_aJ, xq_aR, Nat.reduceAdd]
  with_reducible refine xh_blk b_L_feed_0c k_L_feed_0c ?_
  refine by_aload rfl ?_
  refine by_iconst ci_0 ?_
  refine by_aload_n rfl ?_
  refine by_iload_n rfl ?_
  refine by_lload_n rfl ?_
  refine by_nil ?_
  refine xh_call (as := [.int p, .long v]) (b := 0) (rest := [.int (nI 0), .ref 163]) rfl ⟨_, rfl, rfl⟩ (Nat.le_of_ble_eq_true rfl) (Nat.le_of_ble_eq_true rfl) ?_
  simp only [xq_a0, xq_aI, xq_aJ, xq_aR, Nat.reduceAdd]
  refine xx_mono (xm_T_mono d d (Nat.le_refl _)) (fun r h' hv => ?_) (fun X h' hX => ?_) hgo
  · obtain ⟨v, rfl, hv⟩ := hv
    show xm_go (XE sc) _ 333 post 9 _ [.int v, .int (nI 0), .ref 163] h'
    with_reducible refine xm_go_blk b_L_feed_9 k_L_feed_9 ?_
    refine by_i2l ?_
    refine by_last (by first | exact rfl | assumption) ⟨by omega, by omega⟩ ?_
    refine by_goto 22 rfl ?_
    try simp (disch := first | exact Nat.ne_of_beq_eq_false rfl | exact rfl | omega) only [nI_add, xa_sub, xa_mul, pk_div, nm_mod, xa_shr, xa_and7, xa_and1, xa_and255, xa_by_and, nI_m1, Nat.add_sub_cancel, Nat.reducePow, Nat.zero_add, Nat.add_zero, Nat.reduceAdd, Nat.reduceMul, Nat.reduceSub, xf_same, xq_ff, xq_fo, xf_1, xf_2, xs_1, xs_2, xs_same, xq_so, xj_1, xj_2, xj_same, xq_jo, xq_sa1, xq_same, xq_other, upd_s, oI_n, oI_s, xv_0, xv_1, xv_2, xv_3, xm_p1, xm_p2, xq_fp, xq_fn, List.filter_nil, Nat.reduceBEq, Bool.not_true, Bool.not_false, Bool.and_true, Bool.and_false, Bool.false_and, Bool.true_and, if_true, if_false, Bool.false_eq_true, reduceIte, xc_i, xc_j, xc_r, xc_n, List.nil_append, List.cons_append, Option.toList_some, Option.toList_none]
    with_reducible refine xm_go_blk b_L_feed_22 k_L_feed_22 ?_
    refine by_iconst ci_0 ?_
    refine by_iret ry_333 (by first | rfl | assumption) ?_
    exact hv
  · rcases hX with ⟨rfl, hX⟩ | ⟨rfl, hX⟩
    · refine ⟨16, 5, by simp [hp_feed], ?_⟩
      with_reducible refine xm_go_blk b_L_feed_16 k_L_feed_16 ?_
      refine by_iconst ci_1 ?_
      refine by_iret ry_333 (by first | rfl | assumption) ?_
      exact hX
    · refine ⟨20, 5, by simp [hp_feed], ?_⟩
      with_reducible refine xm_go_blk b_L_feed_20 k_L_feed_20 ?_
      refine by_iconst ci_2 ?_
      refine by_iret ry_333 (by first | rfl | assumption) ?_
      exact hX
theorem hl_run {p : Int32} {v : Int32} {u : Int32} (hgo : xm_goX (XE sc) (xm_T (XE sc) d) 188 (fun r h' => ∃ v, r = some (.int v) ∧ post (some (.int (nI 0))) (xm_sl h' 163 0 v.toInt64)) tw_X11_run (fun X h' => (X = "java/lang/IllegalArgumentException" ∧ post (some (.int (nI 1))) h') ∨ (X = "java/lang/IllegalStateException" ∧ post (some (.int (nI 2))) h')) 0 [(0, .ref 0), (1, .int p), (2, .int v), (3, .int u)] [] h) : xm_goH (XE sc) d 334 188 7 tw_X11_run hp_run post 0 (lv_args 0 [.ref 0, .int p, .int v, .int u, .ref 163]) [] h := by
  simp only [xq_a0, xq_aI, xq_aJ, xq_aR, Nat.reduceAdd]
  with_reducible refine xh_blk b_L_run_0c k_L_run_0c ?_
  refine by_aload rfl ?_
  refine by_iconst ci_0 ?_
  refine by_aload_n rfl ?_
  refine by_iload_n rfl ?_
  refine by_iload_n rfl ?_
  refine by_iload_n rfl ?_
  refine by_nil ?_
  refine xh_call (as := [.int p, .int v, .int u]) (b := 0) (rest := [.int (nI 0), .ref 163]) rfl ⟨_, rfl, rfl⟩ (Nat.le_of_ble_eq_true rfl) (Nat.le_of_ble_eq_true rfl) ?_
  simp only [xq_a0, xq_aI, xq_aJ, xq_aR, Nat.reduceAdd]
  refine xx_mono (xm_T_mono d d (Nat.le_refl _)) (fun r h' hv => ?_) (fun X h' hX => ?_) hgo
  · obtain ⟨v, rfl, hv⟩ := hv
    show xm_go (XE sc) _ 334 post 10 _ [.int v, .int (nI 0), .ref 163] h'
    with_reducible refine xm_go_blk b_L_run_10 k_L_run_10 ?_
    refine by_i2l ?_
    refine by_last (by first | exact rfl | assumption) ⟨by omega, by omega⟩ ?_
    refine by_goto 23 rfl ?_
    try simp (disch := first | exact Nat.ne_of_beq_eq_false rfl | exact rfl | omega) only [nI_add, xa_sub, xa_mul, pk_div, nm_mod, xa_shr, xa_and7, xa_and1, xa_and255, xa_by_and, nI_m1, Nat.add_sub_cancel, Nat.reducePow, Nat.zero_add, Nat.add_zero, Nat.reduceAdd, Nat.reduceMul, Nat.reduceSub, xf_same, xq_ff, xq_fo, xf_1, xf_2, xs_1, xs_2, xs_same, xq_so, xj_1, xj_2, xj_same, xq_jo, xq_sa1, xq_same, xq_other, upd_s, oI_n, oI_s, xv_0, xv_1, xv_2, xv_3, xm_p1, xm_p2, xq_fp, xq_fn, List.filter_nil, Nat.reduceBEq, Bool.not_true, Bool.not_false, Bool.and_true, Bool.and_false, Bool.false_and, Bool.true_and, if_true, if_false, Bool.false_eq_true, reduceIte, xc_i, xc_j, xc_r, xc_n, List.nil_append, List.cons_append, Option.toList_some, Option.toList_none]
    with_reducible refine xm_go_blk b_L_run_23 k_L_run_23 ?_
    refine by_iconst ci_0 ?_
    refine by_iret ry_334 (by first | rfl | assumption) ?_
    exact hv
  · rcases hX with ⟨rfl, hX⟩ | ⟨rfl, hX⟩
    · refine ⟨17, 5, by simp [hp_run], ?_⟩
      with_reducible refine xm_go_blk b_L_run_17 k_L_run_17 ?_
      refine by_iconst ci_1 ?_
      refine by_iret ry_334 (by first | rfl | assumption) ?_
      exact hX
    · refine ⟨21, 5, by simp [hp_run], ?_⟩
      with_reducible refine xm_go_blk b_L_run_21 k_L_run_21 ?_
      refine by_iconst ci_2 ?_
      refine by_iret ry_334 (by first | rfl | assumption) ?_
      exact hX
theorem hl_node {p : Int32} {v : Int32} (hgo : xm_goX (XE sc) (xm_T (XE sc) d) 184 (fun r h' => ∃ v, r = some (.int v) ∧ post (some (.int (nI 0))) (xm_sl h' 163 0 v.toInt64)) tw_X11_node (fun X h' => (X = "java/util/NoSuchElementException" ∧ post (some (.int (nI 1))) h')) 0 [(0, .ref 0), (1, .int p), (2, .int v)] [] h) : xm_goH (XE sc) d 335 184 5 tw_X11_node hp_node post 0 (lv_args 0 [.ref 0, .int p, .int v, .ref 163]) [] h := by
  simp only [xq_a0, xq_aI, xq_aJ, xq_aR, Nat.reduceAdd]
  with_reducible refine xh_blk b_L_node_0c k_L_node_0c ?_
  refine by_aload_n rfl ?_
  refine by_iconst ci_0 ?_
  refine by_aload_n rfl ?_
  refine by_iload_n rfl ?_
  refine by_iload_n rfl ?_
  refine by_nil ?_
  refine xh_call (as := [.int p, .int v]) (b := 0) (rest := [.int (nI 0), .ref 163]) rfl ⟨_, rfl, rfl⟩ (Nat.le_of_ble_eq_true rfl) (Nat.le_of_ble_eq_true rfl) ?_
  simp only [xq_a0, xq_aI, xq_aJ, xq_aR, Nat.reduceAdd]
  refine xx_mono (xm_T_mono d d (Nat.le_refl _)) (fun r h' hv => ?_) (fun X h' hX => ?_) hgo
  · obtain ⟨v, rfl, hv⟩ := hv
    show xm_go (XE sc) _ 335 post 8 _ [.int v, .int (nI 0), .ref 163] h'
    with_reducible refine xm_go_blk b_L_node_8 k_L_node_8 ?_
    refine by_i2l ?_
    refine by_last (by first | exact rfl | assumption) ⟨by omega, by omega⟩ ?_
    refine by_goto 17 rfl ?_
    try simp (disch := first | exact Nat.ne_of_beq_eq_false rfl | exact rfl | omega) only [nI_add, xa_sub, xa_mul, pk_div, nm_mod, xa_shr, xa_and7, xa_and1, xa_and255, xa_by_and, nI_m1, Nat.add_sub_cancel, Nat.reducePow, Nat.zero_add, Nat.add_zero, Nat.reduceAdd, Nat.reduceMul, Nat.reduceSub, xf_same, xq_ff, xq_fo, xf_1, xf_2, xs_1, xs_2, xs_same, xq_so, xj_1, xj_2, xj_same, xq_jo, xq_sa1, xq_same, xq_other, upd_s, oI_n, oI_s, xv_0, xv_1, xv_2, xv_3, xm_p1, xm_p2, xq_fp, xq_fn, List.filter_nil, Nat.reduceBEq, Bool.not_true, Bool.not_false, Bool.and_true, Bool.and_false, Bool.false_and, Bool.true_and, if_true, if_false, Bool.false_eq_true, reduceIte, xc_i, xc_j, xc_r, xc_n, List.nil_append, List.cons_append, Option.toList_some, Option.toList_none]
    with_reducible refine xm_go_blk b_L_node_17 k_L_node_17 ?_
    refine by_iconst ci_0 ?_
    refine by_iret ry_335 (by first | rfl | assumption) ?_
    exact hv
  · obtain ⟨rfl, hX⟩ := hX
    refine ⟨15, 4, by simp [hp_node], ?_⟩
    with_reducible refine xm_go_blk b_L_node_15 k_L_node_15 ?_
    refine by_iconst ci_1 ?_
    refine by_iret ry_335 (by first | rfl | assumption) ?_
    exact hX
theorem hl_root {p : Int32} {v : Int32} (hgo : xm_goX (XE sc) (xm_T (XE sc) d) 187 (fun r h' => ∃ v, r = some (.long v) ∧ post (some (.int (nI 0))) (xm_sl h' 163 0 v)) tw_X11_root (fun X h' => (X = "java/util/NoSuchElementException" ∧ post (some (.int (nI 1))) h')) 0 [(0, .ref 0), (1, .int p), (2, .int v)] [] h) : xm_goH (XE sc) d 336 187 5 tw_X11_root hp_root post 0 (lv_args 0 [.ref 0, .int p, .int v, .ref 163]) [] h := by
  simp only [xq_a0, xq_aI, xq_aJ, xq_aR, Nat.reduceAdd]
  with_reducible refine xh_blk b_L_root_0c k_L_root_0c ?_
  refine by_aload_n rfl ?_
  refine by_iconst ci_0 ?_
  refine by_aload_n rfl ?_
  refine by_iload_n rfl ?_
  refine by_iload_n rfl ?_
  refine by_nil ?_
  refine xh_call (as := [.int p, .int v]) (b := 0) (rest := [.int (nI 0), .ref 163]) rfl ⟨_, rfl, rfl⟩ (Nat.le_of_ble_eq_true rfl) (Nat.le_of_ble_eq_true rfl) ?_
  simp only [xq_a0, xq_aI, xq_aJ, xq_aR, Nat.reduceAdd]
  refine xx_mono (xm_T_mono d d (Nat.le_refl _)) (fun r h' hv => ?_) (fun X h' hX => ?_) hgo
  · obtain ⟨v, rfl, hv⟩ := hv
    show xm_go (XE sc) _ 336 post 8 _ [.long v, .int (nI 0), .ref 163] h'
    with_reducible refine xm_go_blk b_L_root_8 k_L_root_8 ?_
    refine by_last (by first | exact rfl | assumption) ⟨by omega, by omega⟩ ?_
    refine by_goto 16 rfl ?_
    with_reducible refine xm_go_blk b_L_root_16 k_L_root_16 ?_
    refine by_iconst ci_0 ?_
    refine by_iret ry_336 (by first | rfl | assumption) ?_
    exact hv
  · obtain ⟨rfl, hX⟩ := hX
    refine ⟨14, 4, by simp [hp_root], ?_⟩
    with_reducible refine xm_go_blk b_L_root_14 k_L_root_14 ?_
    refine by_iconst ci_1 ?_
    refine by_iret ry_336 (by first | rfl | assumption) ?_
    exact hX
theorem hl_typeRoot {p : Int32} {v : Int32} {u : Int32} (hgo : xm_goX (XE sc) (xm_T (XE sc) d) 194 (fun r h' => ∃ v, r = some (.long v) ∧ post (some (.int (nI 0))) (xm_sl h' 163 0 v)) tw_X11_typeRoot (fun X h' => (X = "java/util/NoSuchElementException" ∧ post (some (.int (nI 1))) h')) 0 [(0, .ref 0), (1, .int p), (2, .int v), (3, .int u)] [] h) : xm_goH (XE sc) d 337 194 7 tw_X11_typeRoot hp_typeRoot post 0 (lv_args 0 [.ref 0, .int p, .int v, .int u, .ref 163]) [] h := by
  simp only [xq_a0, xq_aI, xq_aJ, xq_aR, Nat.reduceAdd]
  with_reducible refine xh_blk b_L_typeRoot_0c k_L_typeRoot_0c ?_
  refine by_aload rfl ?_
  refine by_iconst ci_0 ?_
  refine by_aload_n rfl ?_
  refine by_iload_n rfl ?_
  refine by_iload_n rfl ?_
  refine by_iload_n rfl ?_
  refine by_nil ?_
  refine xh_call (as := [.int p, .int v, .int u]) (b := 0) (rest := [.int (nI 0), .ref 163]) rfl ⟨_, rfl, rfl⟩ (Nat.le_of_ble_eq_true rfl) (Nat.le_of_ble_eq_true rfl) ?_
  simp only [xq_a0, xq_aI, xq_aJ, xq_aR, Nat.reduceAdd]
  refine xx_mono (xm_T_mono d d (Nat.le_refl _)) (fun r h' hv => ?_) (fun X h' hX => ?_) hgo
  · obtain ⟨v, rfl, hv⟩ := hv
    show xm_go (XE sc) _ 337 post 10 _ [.long v, .int (nI 0), .ref 163] h'
    with_reducible refine xm_go_blk b_L_typeRoot_10 k_L_typeRoot_10 ?_
    refine by_last (by first | exact rfl | assumption) ⟨by omega, by omega⟩ ?_
    refine by_goto 18 rfl ?_
    with_reducible refine xm_go_blk b_L_typeRoot_18 k_L_typeRoot_18 ?_
    refine by_iconst ci_0 ?_
    refine by_iret ry_337 (by first | rfl | assumption) ?_
    exact hv
  · obtain ⟨rfl, hX⟩ := hX
    refine ⟨16, 5, by simp [hp_typeRoot], ?_⟩
    with_reducible refine xm_go_blk b_L_typeRoot_16 k_L_typeRoot_16 ?_
    refine by_iconst ci_1 ?_
    refine by_iret ry_337 (by first | rfl | assumption) ?_
    exact hX
theorem hl_type {p : Int32} {v : Int32} (hgo : xm_goX (XE sc) (xm_T (XE sc) d) 193 (fun r h' => ∃ v, r = some (.int v) ∧ post (some (.int (nI 0))) (xm_sl h' 163 0 v.toInt64)) tw_X11_type (fun X h' => (X = "java/util/NoSuchElementException" ∧ post (some (.int (nI 1))) h')) 0 [(0, .ref 0), (1, .int p), (2, .int v)] [] h) : xm_goH (XE sc) d 338 193 5 tw_X11_type hp_type post 0 (lv_args 0 [.ref 0, .int p, .int v, .ref 163]) [] h := by
  simp only [xq_a0, xq_aI, xq_aJ, xq_aR, Nat.reduceAdd]
  with_reducible refine xh_blk b_L_type_0c k_L_type_0c ?_
  refine by_aload_n rfl ?_
  refine by_iconst ci_0 ?_
  refine by_aload_n rfl ?_
  refine by_iload_n rfl ?_
  refine by_iload_n rfl ?_
  refine by_nil ?_
  refine xh_call (as := [.int p, .int v]) (b := 0) (rest := [.int (nI 0), .ref 163]) rfl ⟨_, rfl, rfl⟩ (Nat.le_of_ble_eq_true rfl) (Nat.le_of_ble_eq_true rfl) ?_
  simp only [xq_a0, xq_aI, xq_aJ, xq_aR, Nat.reduceAdd]
  refine xx_mono (xm_T_mono d d (Nat.le_refl _)) (fun r h' hv => ?_) (fun X h' hX => ?_) hgo
  · obtain ⟨v, rfl, hv⟩ := hv
    show xm_go (XE sc) _ 338 post 8 _ [.int v, .int (nI 0), .ref 163] h'
    with_reducible refine xm_go_blk b_L_type_8 k_L_type_8 ?_
    refine by_i2l ?_
    refine by_last (by first | exact rfl | assumption) ⟨by omega, by omega⟩ ?_
    refine by_goto 17 rfl ?_
    try simp (disch := first | exact Nat.ne_of_beq_eq_false rfl | exact rfl | omega) only [nI_add, xa_sub, xa_mul, pk_div, nm_mod, xa_shr, xa_and7, xa_and1, xa_and255, xa_by_and, nI_m1, Nat.add_sub_cancel, Nat.reducePow, Nat.zero_add, Nat.add_zero, Nat.reduceAdd, Nat.reduceMul, Nat.reduceSub, xf_same, xq_ff, xq_fo, xf_1, xf_2, xs_1, xs_2, xs_same, xq_so, xj_1, xj_2, xj_same, xq_jo, xq_sa1, xq_same, xq_other, upd_s, oI_n, oI_s, xv_0, xv_1, xv_2, xv_3, xm_p1, xm_p2, xq_fp, xq_fn, List.filter_nil, Nat.reduceBEq, Bool.not_true, Bool.not_false, Bool.and_true, Bool.and_false, Bool.false_and, Bool.true_and, if_true, if_false, Bool.false_eq_true, reduceIte, xc_i, xc_j, xc_r, xc_n, List.nil_append, List.cons_append, Option.toList_some, Option.toList_none]
    with_reducible refine xm_go_blk b_L_type_17 k_L_type_17 ?_
    refine by_iconst ci_0 ?_
    refine by_iret ry_338 (by first | rfl | assumption) ?_
    exact hv
  · obtain ⟨rfl, hX⟩ := hX
    refine ⟨15, 4, by simp [hp_type], ?_⟩
    with_reducible refine xm_go_blk b_L_type_15 k_L_type_15 ?_
    refine by_iconst ci_1 ?_
    refine by_iret ry_338 (by first | rfl | assumption) ?_
    exact hX
theorem hl_speak  (hgo : xm_goY (XE sc) d 190 (fun r h' => ∃ v, r = some (.int v) ∧ post (some (.int (nI 0))) (xm_sl h' 163 0 v.toInt64)) tw_X11_speak (fun X h' => (X = "java/lang/IllegalStateException" ∧ post (some (.int (nI 1))) h')) (ex190 sc d) 0 [(0, .ref 0)] [] h) : xm_goHY (XE sc) d 339 190 3 tw_X11_speak hp_speak (ex190 sc d) post 0 (lv_args 0 [.ref 0, .ref 163]) [] h := by
  simp only [xq_a0, xq_aI, xq_aJ, xq_aR, Nat.reduceAdd]
  with_reducible refine xhy_blk b_L_speak_0c k_L_speak_0c ?_
  refine by_aload_n rfl ?_
  refine by_iconst ci_0 ?_
  refine by_aload_n rfl ?_
  refine by_nil ?_
  refine xhy_call (as := []) (b := 0) (rest := [.int (nI 0), .ref 163]) rfl ⟨_, rfl, rfl⟩ (Nat.le_of_ble_eq_true rfl) (Nat.le_of_ble_eq_true rfl) ?_
  simp only [xq_a0, xq_aI, xq_aJ, xq_aR, Nat.reduceAdd]
  refine xy_mono2 (fun r h' hv => ?_) (fun X h' hX => ?_) hgo
  · obtain ⟨v, rfl, hv⟩ := hv
    show xm_go (XE sc) _ 339 post 6 _ [.int v, .int (nI 0), .ref 163] h'
    with_reducible refine xm_go_blk b_L_speak_6 k_L_speak_6 ?_
    refine by_i2l ?_
    refine by_last (by first | exact rfl | assumption) ⟨by omega, by omega⟩ ?_
    refine by_goto 14 rfl ?_
    try simp (disch := first | exact Nat.ne_of_beq_eq_false rfl | exact rfl | omega) only [nI_add, xa_sub, xa_mul, pk_div, nm_mod, xa_shr, xa_and7, xa_and1, xa_and255, xa_by_and, nI_m1, Nat.add_sub_cancel, Nat.reducePow, Nat.zero_add, Nat.add_zero, Nat.reduceAdd, Nat.reduceMul, Nat.reduceSub, xf_same, xq_ff, xq_fo, xf_1, xf_2, xs_1, xs_2, xs_same, xq_so, xj_1, xj_2, xj_same, xq_jo, xq_sa1, xq_same, xq_other, upd_s, oI_n, oI_s, xv_0, xv_1, xv_2, xv_3, xm_p1, xm_p2, xq_fp, xq_fn, List.filter_nil, Nat.reduceBEq, Bool.not_true, Bool.not_false, Bool.and_true, Bool.and_false, Bool.false_and, Bool.true_and, if_true, if_false, Bool.false_eq_true, reduceIte, xc_i, xc_j, xc_r, xc_n, List.nil_append, List.cons_append, Option.toList_some, Option.toList_none]
    with_reducible refine xm_go_blk b_L_speak_14 k_L_speak_14 ?_
    refine by_iconst ci_0 ?_
    refine by_iret ry_339 (by first | rfl | assumption) ?_
    exact hv
  · obtain ⟨rfl, hX⟩ := hX
    refine ⟨12, 2, by simp [hp_speak], ?_⟩
    with_reducible refine xm_go_blk b_L_speak_12 k_L_speak_12 ?_
    refine by_iconst ci_1 ?_
    refine by_iret ry_339 (by first | rfl | assumption) ?_
    exact hX
theorem hl_value {p : Int32} {v : Int32} (hgo : xm_goX (XE sc) (xm_T (XE sc) d) 195 (fun r h' => ∃ v, r = some (.int v) ∧ post (some (.int (nI 0))) (xm_sl h' 163 0 v.toInt64)) tw_X11_value (fun X h' => (X = "java/util/NoSuchElementException" ∧ post (some (.int (nI 1))) h')) 0 [(0, .ref 0), (1, .int p), (2, .int v)] [] h) : xm_goH (XE sc) d 340 195 5 tw_X11_value hp_value post 0 (lv_args 0 [.ref 0, .int p, .int v, .ref 163]) [] h := by
  simp only [xq_a0, xq_aI, xq_aJ, xq_aR, Nat.reduceAdd]
  with_reducible refine xh_blk b_L_value_0c k_L_value_0c ?_
  refine by_aload_n rfl ?_
  refine by_iconst ci_0 ?_
  refine by_aload_n rfl ?_
  refine by_iload_n rfl ?_
  refine by_iload_n rfl ?_
  refine by_nil ?_
  refine xh_call (as := [.int p, .int v]) (b := 0) (rest := [.int (nI 0), .ref 163]) rfl ⟨_, rfl, rfl⟩ (Nat.le_of_ble_eq_true rfl) (Nat.le_of_ble_eq_true rfl) ?_
  simp only [xq_a0, xq_aI, xq_aJ, xq_aR, Nat.reduceAdd]
  refine xx_mono (xm_T_mono d d (Nat.le_refl _)) (fun r h' hv => ?_) (fun X h' hX => ?_) hgo
  · obtain ⟨v, rfl, hv⟩ := hv
    show xm_go (XE sc) _ 340 post 8 _ [.int v, .int (nI 0), .ref 163] h'
    with_reducible refine xm_go_blk b_L_value_8 k_L_value_8 ?_
    refine by_i2l ?_
    refine by_last (by first | exact rfl | assumption) ⟨by omega, by omega⟩ ?_
    refine by_goto 17 rfl ?_
    try simp (disch := first | exact Nat.ne_of_beq_eq_false rfl | exact rfl | omega) only [nI_add, xa_sub, xa_mul, pk_div, nm_mod, xa_shr, xa_and7, xa_and1, xa_and255, xa_by_and, nI_m1, Nat.add_sub_cancel, Nat.reducePow, Nat.zero_add, Nat.add_zero, Nat.reduceAdd, Nat.reduceMul, Nat.reduceSub, xf_same, xq_ff, xq_fo, xf_1, xf_2, xs_1, xs_2, xs_same, xq_so, xj_1, xj_2, xj_same, xq_jo, xq_sa1, xq_same, xq_other, upd_s, oI_n, oI_s, xv_0, xv_1, xv_2, xv_3, xm_p1, xm_p2, xq_fp, xq_fn, List.filter_nil, Nat.reduceBEq, Bool.not_true, Bool.not_false, Bool.and_true, Bool.and_false, Bool.false_and, Bool.true_and, if_true, if_false, Bool.false_eq_true, reduceIte, xc_i, xc_j, xc_r, xc_n, List.nil_append, List.cons_append, Option.toList_some, Option.toList_none]
    with_reducible refine xm_go_blk b_L_value_17 k_L_value_17 ?_
    refine by_iconst ci_0 ?_
    refine by_iret ry_340 (by first | rfl | assumption) ?_
    exact hv
  · obtain ⟨rfl, hX⟩ := hX
    refine ⟨15, 4, by simp [hp_value], ?_⟩
    with_reducible refine xm_go_blk b_L_value_15 k_L_value_15 ?_
    refine by_iconst ci_1 ?_
    refine by_iret ry_340 (by first | rfl | assumption) ?_
    exact hX
theorem hl_worth {p : Int32} {v : Int32} (hgo : xm_goX (XE sc) (xm_T (XE sc) d) 198 (fun r h' => ∃ v, r = some (.int v) ∧ post (some (.int (nI 0))) (xm_sl h' 163 0 v.toInt64)) tw_X11_worth (fun X h' => (X = "java/util/NoSuchElementException" ∧ post (some (.int (nI 1))) h')) 0 [(0, .ref 0), (1, .int p), (2, .int v)] [] h) : xm_goH (XE sc) d 341 198 5 tw_X11_worth hp_worth post 0 (lv_args 0 [.ref 0, .int p, .int v, .ref 163]) [] h := by
  simp only [xq_a0, xq_aI, xq_aJ, xq_aR, Nat.reduceAdd]
  with_reducible refine xh_blk b_L_worth_0c k_L_worth_0c ?_
  refine by_aload_n rfl ?_
  refine by_iconst ci_0 ?_
  refine by_aload_n rfl ?_
  refine by_iload_n rfl ?_
  refine by_iload_n rfl ?_
  refine by_nil ?_
  refine xh_call (as := [.int p, .int v]) (b := 0) (rest := [.int (nI 0), .ref 163]) rfl ⟨_, rfl, rfl⟩ (Nat.le_of_ble_eq_true rfl) (Nat.le_of_ble_eq_true rfl) ?_
  simp only [xq_a0, xq_aI, xq_aJ, xq_aR, Nat.reduceAdd]
  refine xx_mono (xm_T_mono d d (Nat.le_refl _)) (fun r h' hv => ?_) (fun X h' hX => ?_) hgo
  · obtain ⟨v, rfl, hv⟩ := hv
    show xm_go (XE sc) _ 341 post 8 _ [.int v, .int (nI 0), .ref 163] h'
    with_reducible refine xm_go_blk b_L_worth_8 k_L_worth_8 ?_
    refine by_i2l ?_
    refine by_last (by first | exact rfl | assumption) ⟨by omega, by omega⟩ ?_
    refine by_goto 17 rfl ?_
    try simp (disch := first | exact Nat.ne_of_beq_eq_false rfl | exact rfl | omega) only [nI_add, xa_sub, xa_mul, pk_div, nm_mod, xa_shr, xa_and7, xa_and1, xa_and255, xa_by_and, nI_m1, Nat.add_sub_cancel, Nat.reducePow, Nat.zero_add, Nat.add_zero, Nat.reduceAdd, Nat.reduceMul, Nat.reduceSub, xf_same, xq_ff, xq_fo, xf_1, xf_2, xs_1, xs_2, xs_same, xq_so, xj_1, xj_2, xj_same, xq_jo, xq_sa1, xq_same, xq_other, upd_s, oI_n, oI_s, xv_0, xv_1, xv_2, xv_3, xm_p1, xm_p2, xq_fp, xq_fn, List.filter_nil, Nat.reduceBEq, Bool.not_true, Bool.not_false, Bool.and_true, Bool.and_false, Bool.false_and, Bool.true_and, if_true, if_false, Bool.false_eq_true, reduceIte, xc_i, xc_j, xc_r, xc_n, List.nil_append, List.cons_append, Option.toList_some, Option.toList_none]
    with_reducible refine xm_go_blk b_L_worth_17 k_L_worth_17 ?_
    refine by_iconst ci_0 ?_
    refine by_iret ry_341 (by first | rfl | assumption) ?_
    exact hv
  · obtain ⟨rfl, hX⟩ := hX
    refine ⟨15, 4, by simp [hp_worth], ?_⟩
    with_reducible refine xm_go_blk b_L_worth_15 k_L_worth_15 ?_
    refine by_iconst ci_1 ?_
    refine by_iret ry_341 (by first | rfl | assumption) ?_
    exact hX
theorem hl_write  (hgo : xm_goX (XE sc) (xm_T (XE sc) d) 199 (fun r h' => ∃ v, r = some (.int v) ∧ post (some (.int (nI 0))) (xm_sl h' 163 0 v.toInt64)) tw_X11_write (fun X h' => (X = "java/lang/IllegalStateException" ∧ post (some (.int (nI 1))) h')) 0 [(0, .ref 0)] [] h) : xm_goH (XE sc) d 342 199 3 tw_X11_write hp_write post 0 (lv_args 0 [.ref 0, .ref 163]) [] h := by
  simp only [xq_a0, xq_aI, xq_aJ, xq_aR, Nat.reduceAdd]
  with_reducible refine xh_blk b_L_write_0c k_L_write_0c ?_
  refine by_aload_n rfl ?_
  refine by_iconst ci_0 ?_
  refine by_aload_n rfl ?_
  refine by_nil ?_
  refine xh_call (as := []) (b := 0) (rest := [.int (nI 0), .ref 163]) rfl ⟨_, rfl, rfl⟩ (Nat.le_of_ble_eq_true rfl) (Nat.le_of_ble_eq_true rfl) ?_
  simp only [xq_a0, xq_aI, xq_aJ, xq_aR, Nat.reduceAdd]
  refine xx_mono (xm_T_mono d d (Nat.le_refl _)) (fun r h' hv => ?_) (fun X h' hX => ?_) hgo
  · obtain ⟨v, rfl, hv⟩ := hv
    show xm_go (XE sc) _ 342 post 6 _ [.int v, .int (nI 0), .ref 163] h'
    with_reducible refine xm_go_blk b_L_write_6 k_L_write_6 ?_
    refine by_i2l ?_
    refine by_last (by first | exact rfl | assumption) ⟨by omega, by omega⟩ ?_
    refine by_goto 14 rfl ?_
    try simp (disch := first | exact Nat.ne_of_beq_eq_false rfl | exact rfl | omega) only [nI_add, xa_sub, xa_mul, pk_div, nm_mod, xa_shr, xa_and7, xa_and1, xa_and255, xa_by_and, nI_m1, Nat.add_sub_cancel, Nat.reducePow, Nat.zero_add, Nat.add_zero, Nat.reduceAdd, Nat.reduceMul, Nat.reduceSub, xf_same, xq_ff, xq_fo, xf_1, xf_2, xs_1, xs_2, xs_same, xq_so, xj_1, xj_2, xj_same, xq_jo, xq_sa1, xq_same, xq_other, upd_s, oI_n, oI_s, xv_0, xv_1, xv_2, xv_3, xm_p1, xm_p2, xq_fp, xq_fn, List.filter_nil, Nat.reduceBEq, Bool.not_true, Bool.not_false, Bool.and_true, Bool.and_false, Bool.false_and, Bool.true_and, if_true, if_false, Bool.false_eq_true, reduceIte, xc_i, xc_j, xc_r, xc_n, List.nil_append, List.cons_append, Option.toList_some, Option.toList_none]
    with_reducible refine xm_go_blk b_L_write_14 k_L_write_14 ?_
    refine by_iconst ci_0 ?_
    refine by_iret ry_342 (by first | rfl | assumption) ?_
    exact hv
  · obtain ⟨rfl, hX⟩ := hX
    refine ⟨12, 2, by simp [hp_write], ?_⟩
    with_reducible refine xm_go_blk b_L_write_12 k_L_write_12 ?_
    refine by_iconst ci_1 ?_
    refine by_iret ry_342 (by first | rfl | assumption) ?_
    exact hX
theorem hl_out {p : Int32} (hgo : xm_goX (XE sc) (xm_T (XE sc) d) 185 (fun r h' => ∃ v, r = some (.long v) ∧ post (some (.int (nI 0))) (xm_sl h' 163 0 v)) tw_X11_out (fun X h' => (X = "java/util/NoSuchElementException" ∧ post (some (.int (nI 1))) h')) 0 [(0, .ref 0), (1, .int p)] [] h) : xm_goH (XE sc) d 343 185 4 tw_X11_out hp_out post 0 (lv_args 0 [.ref 0, .int p, .ref 163]) [] h := by
  simp only [xq_a0, xq_aI, xq_aJ, xq_aR, Nat.reduceAdd]
  with_reducible refine xh_blk b_L_out_0c k_L_out_0c ?_
  refine by_aload_n rfl ?_
  refine by_iconst ci_0 ?_
  refine by_aload_n rfl ?_
  refine by_iload_n rfl ?_
  refine by_nil ?_
  refine xh_call (as := [.int p]) (b := 0) (rest := [.int (nI 0), .ref 163]) rfl ⟨_, rfl, rfl⟩ (Nat.le_of_ble_eq_true rfl) (Nat.le_of_ble_eq_true rfl) ?_
  simp only [xq_a0, xq_aI, xq_aJ, xq_aR, Nat.reduceAdd]
  refine xx_mono (xm_T_mono d d (Nat.le_refl _)) (fun r h' hv => ?_) (fun X h' hX => ?_) hgo
  · obtain ⟨v, rfl, hv⟩ := hv
    show xm_go (XE sc) _ 343 post 7 _ [.long v, .int (nI 0), .ref 163] h'
    with_reducible refine xm_go_blk b_L_out_7 k_L_out_7 ?_
    refine by_last (by first | exact rfl | assumption) ⟨by omega, by omega⟩ ?_
    refine by_goto 14 rfl ?_
    with_reducible refine xm_go_blk b_L_out_14 k_L_out_14 ?_
    refine by_iconst ci_0 ?_
    refine by_iret ry_343 (by first | rfl | assumption) ?_
    exact hv
  · obtain ⟨rfl, hX⟩ := hX
    refine ⟨12, 3, by simp [hp_out], ?_⟩
    with_reducible refine xm_go_blk b_L_out_12 k_L_out_12 ?_
    refine by_iconst ci_1 ?_
    refine by_iret ry_343 (by first | rfl | assumption) ?_
    exact hX
theorem hl_look {p : Int32} (hgo : xm_goX (XE sc) (xm_T (XE sc) d) 182 (fun r h' => ∃ v, r = some (.int v) ∧ post (some (.int (nI 0))) (xm_sl h' 163 0 v.toInt64)) tw_X11_look (fun X h' => (X = "java/lang/IllegalArgumentException" ∧ post (some (.int (nI 1))) h')) 0 [(0, .ref 0), (1, .int p)] [] h) : xm_goH (XE sc) d 344 182 4 tw_X11_look hp_look post 0 (lv_args 0 [.ref 0, .int p, .ref 163]) [] h := by
  simp only [xq_a0, xq_aI, xq_aJ, xq_aR, Nat.reduceAdd]
  with_reducible refine xh_blk b_L_look_0c k_L_look_0c ?_
  refine by_aload_n rfl ?_
  refine by_iconst ci_0 ?_
  refine by_aload_n rfl ?_
  refine by_iload_n rfl ?_
  refine by_nil ?_
  refine xh_call (as := [.int p]) (b := 0) (rest := [.int (nI 0), .ref 163]) rfl ⟨_, rfl, rfl⟩ (Nat.le_of_ble_eq_true rfl) (Nat.le_of_ble_eq_true rfl) ?_
  simp only [xq_a0, xq_aI, xq_aJ, xq_aR, Nat.reduceAdd]
  refine xx_mono (xm_T_mono d d (Nat.le_refl _)) (fun r h' hv => ?_) (fun X h' hX => ?_) hgo
  · obtain ⟨v, rfl, hv⟩ := hv
    show xm_go (XE sc) _ 344 post 7 _ [.int v, .int (nI 0), .ref 163] h'
    with_reducible refine xm_go_blk b_L_look_7 k_L_look_7 ?_
    refine by_i2l ?_
    refine by_last (by first | exact rfl | assumption) ⟨by omega, by omega⟩ ?_
    refine by_goto 15 rfl ?_
    try simp (disch := first | exact Nat.ne_of_beq_eq_false rfl | exact rfl | omega) only [nI_add, xa_sub, xa_mul, pk_div, nm_mod, xa_shr, xa_and7, xa_and1, xa_and255, xa_by_and, nI_m1, Nat.add_sub_cancel, Nat.reducePow, Nat.zero_add, Nat.add_zero, Nat.reduceAdd, Nat.reduceMul, Nat.reduceSub, xf_same, xq_ff, xq_fo, xf_1, xf_2, xs_1, xs_2, xs_same, xq_so, xj_1, xj_2, xj_same, xq_jo, xq_sa1, xq_same, xq_other, upd_s, oI_n, oI_s, xv_0, xv_1, xv_2, xv_3, xm_p1, xm_p2, xq_fp, xq_fn, List.filter_nil, Nat.reduceBEq, Bool.not_true, Bool.not_false, Bool.and_true, Bool.and_false, Bool.false_and, Bool.true_and, if_true, if_false, Bool.false_eq_true, reduceIte, xc_i, xc_j, xc_r, xc_n, List.nil_append, List.cons_append, Option.toList_some, Option.toList_none]
    with_reducible refine xm_go_blk b_L_look_15 k_L_look_15 ?_
    refine by_iconst ci_0 ?_
    refine by_iret ry_344 (by first | rfl | assumption) ?_
    exact hv
  · obtain ⟨rfl, hX⟩ := hX
    refine ⟨13, 3, by simp [hp_look], ?_⟩
    with_reducible refine xm_go_blk b_L_look_13 k_L_look_13 ?_
    refine by_iconst ci_1 ?_
    refine by_iret ry_344 (by first | rfl | assumption) ?_
    exact hX
end HL
