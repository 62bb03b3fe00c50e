/-! ===== Order.merge: its loops; nodes that are the same, told in pairs ===== -/
section MG
variable {sc : xm_Sc} {d pp N : Nat} {cd hx : Nat → Nat} {c1 c2 : Nat → Option Nat} {L : List Nat} {h : xm_H} {post : xm_Po}
theorem sp_merge (hF : XF h) (hpp : pp = 52 ∨ pp = 77) (hN : N ≤ 2000) (hD : mgD h pp N cd hx c1 c2) (hs : h.2.2 7 2 = .int (nI L.length)) (hl : ∀ i, i < L.length → h.1 8 i = nI (L.getD i 0)) (hLN : ∀ m ∈ L, m < N) (hnd : L.Nodup) (hcl : df_cl c1 c2 L)
    (hp : ∀ h' tw cnt, mgJ h h' pp N cd hx c1 c2 L tw → cnt ≤ 2000 → (cnt = 0 ↔ ∀ n ∈ L, tw n = n) → post (some (.int (nI cnt))) h') : xm_T (XE sc) (d + 3) 93 [.ref 7, .ref pp] h post := by
  have hlen : L.length ≤ 2000 := Nat.le_trans (nd_len N L hnd hLN) hN
  have run : ∀ (B A : List Nat) (h' : xm_H) (tw : Nat → Nat) (cnt : Nat), L = A ++ B → mgJ h h' pp N cd hx c1 c2 A tw → cnt ≤ A.length → (cnt = 0 ↔ ∀ n ∈ A, tw n = n) → xm_go (XE sc) (xm_T (XE sc) (d + 2)) 93 post 26 [(0, .ref 7), (1, .ref pp), (2, .int (nI cnt)), (3, .int (nI A.length))] [] h' := by
    intro B
    induction B with
    | nil =>
      intro A h' tw cnt hAB hJ hc1 hc2
      rw [List.append_nil] at hAB
      subst hAB
      have e2 : h'.2.2 7 2 = .int (nI L.length) := by rw [hJ.2.1.2.2 _ _ (by simp)]; exact hs
      with_reducible refine xm_go_blk b_X5_merge_26 k_X5_merge_26 ?_
      refine by_iload_n rfl ?_
      refine by_aload_n rfl ?_
      refine by_getf cn_93 fl_5_44 (by first | exact rfl | assumption) (by decide) ?_
      simp (disch := first | exact Nat.ne_of_beq_eq_false rfl | exact rfl | omega) only [nI_add, xa_sub, xa_mul, pk_div, nm_mod, xa_shr, xa_and7, xa_and1, xa_and255, xa_by_and, nI_m1, Nat.add_sub_cancel, Nat.reducePow, Nat.zero_add, Nat.add_zero, Nat.reduceAdd, Nat.reduceMul, Nat.reduceSub, xf_same, xq_ff, xq_fo, xf_1, xf_2, xs_1, xs_2, xs_same, xq_so, xj_1, xj_2, xj_same, xq_jo, xq_sa1, xq_same, xq_other, upd_s, oI_n, oI_s, e2]
      refine by_ic_ge 135 rfl ?_
      simp (disch := first | exact Nat.ne_of_beq_eq_false rfl | exact rfl | omega) only [nI_add, xa_sub, xa_mul, pk_div, nm_mod, xa_shr, xa_and7, xa_and1, xa_and255, xa_by_and, nI_m1, Nat.add_sub_cancel, Nat.reducePow, Nat.zero_add, Nat.add_zero, Nat.reduceAdd, Nat.reduceMul, Nat.reduceSub, xf_same, xq_ff, xq_fo, xf_1, xf_2, xs_1, xs_2, xs_same, xq_so, xj_1, xj_2, xj_same, xq_jo, xq_sa1, xq_same, xq_other, upd_s, oI_n, oI_s, xv_0, xv_1, xv_2, xv_3, xm_p1, xm_p2, xq_fp, xq_fn, List.filter_nil, Nat.reduceBEq, Bool.not_true, Bool.not_false, Bool.and_true, Bool.and_false, Bool.false_and, Bool.true_and, if_true, if_false, Bool.false_eq_true, reduceIte, xc_i, xc_j, xc_r, xc_n, List.nil_append, List.cons_append, Option.toList_some, Option.toList_none, nI_ltJ, nI_leJ, nI_eqJ, nI_ltz, nI_gez, nI_gtz, nI_lez, nI_eqz, m1_ltz, m1_gez, true_imp_iff, false_imp_iff, true_and, and_true, ne_eq, not_false_eq_true, not_true_eq_false, Nat.reduceEqDiff, Nat.reduceLT, Nat.reduceLeDiff, e2]
      refine ⟨fun c26 => ?_, fun c => absurd (by omega) c⟩
      with_reducible refine xm_go_blk b_X5_merge_135 k_X5_merge_135 ?_
      refine by_iload_n rfl ?_
      refine by_iret ry_93 (by first | rfl | assumption) ?_
      exact hp h' tw cnt hJ (by omega) hc2
    | cons n B ih =>
      intro A h' tw cnt hAB hJ hc1 hc2
      have hmem : n ∈ L := by rw [hAB]; simp
      have hA : A.length < L.length := by rw [hAB]; simp
      have hnd2 := hnd
      rw [hAB] at hnd2
      have hnd' := List.nodup_append.mp hnd2
      have hnA : n ∉ A := fun z => hnd'.2.2 n z n (List.mem_cons_self ..) rfl
      have hAN : ∀ m ∈ A, m < N := fun m hm => hLN m (by rw [hAB]; exact List.mem_append_left _ hm)
      have hcln : ∀ x, (c1 n = some x ∨ c2 n = some x) → x ∈ A := fun x hx => hcl A n B hAB x hx
      have hch : ∀ m ∈ A ++ [n], ∀ x, (c1 m = some x ∨ c2 m = some x) → x ∈ A := by
        intro m hm x hx
        rcases List.mem_append.mp hm with z | z
        · obtain ⟨X, Y, e⟩ := List.append_of_mem z
          have := hcl X m (Y ++ n :: B) (by rw [hAB, e]; simp) x hx
          rw [e]; exact List.mem_append_left _ this
        · rw [List.mem_singleton.mp z] at hx
          exact hcln x hx
      have hnN := hLN n hmem
      refine mg_34 hpp hN hLN hAB hlen hs hl hnA hcln hJ (fun h2 f2 q1 q2 q3 => ?_)
      have F2 : XF h2 := Fr_XF hJ.1 f2 (by decide +kernel)
      with_reducible refine xm_go_blk b_X5_merge_100 k_X5_merge_100 ?_
      refine by_aload_n rfl ?_
      refine by_getf cn_93 fl_5_24 (by first | exact rfl | assumption) (by decide) ?_
      refine by_iload rfl ?_
      refine by_aload_n rfl ?_
      refine by_aload_n rfl ?_
      refine by_iload rfl ?_
      simp (disch := first | exact Nat.ne_of_beq_eq_false rfl | exact rfl | omega) only [nI_add, xa_sub, xa_mul, pk_div, nm_mod, xa_shr, xa_and7, xa_and1, xa_and255, xa_by_and, nI_m1, Nat.add_sub_cancel, Nat.reducePow, Nat.zero_add, Nat.add_zero, Nat.reduceAdd, Nat.reduceMul, Nat.reduceSub, xf_same, xq_ff, xq_fo, xf_1, xf_2, xs_1, xs_2, xs_same, xq_so, xj_1, xj_2, xj_same, xq_jo, xq_sa1, xq_same, xq_other, upd_s, oI_n, oI_s, xv_0, xv_1, xv_2, xv_3, xm_p1, xm_p2, xq_fp, xq_fn, List.filter_nil, Nat.reduceBEq, Bool.not_true, Bool.not_false, Bool.and_true, Bool.and_false, Bool.false_and, Bool.true_and, if_true, if_false, Bool.false_eq_true, reduceIte, xc_i, xc_j, xc_r, xc_n, List.nil_append, List.cons_append, Option.toList_some, Option.toList_none, xf_7_5 F2]
      refine by_inv2 cn_93 lk_5_73 (by rw [xe_cnt]; decide) is_96 np_96 cn_96 (by first | exact rfl | assumption) (Nat.le_of_ble_eq_true rfl) ?_
      refine mg_100 hN hpp hD hnN hAN hnA hch hJ f2 q1 q2 q3 (fun h3 v f3 hv hJ3 => ?_)
      have F3 : XF h3 := Fr_XF F2 f3 (by decide +kernel)
      have len1 : (A ++ [n]).length = A.length + 1 := by simp
      by_cases e : v = n
      · have e' : (v = n) = True := eq_true e
        have hr := ih (A ++ [n]) _ _ cnt (by rw [hAB]; simp) hJ3 (by omega) (by
          rw [hc2]
          constructor
          · intro z m hm
            by_cases y : m = n
            · rw [y, updN_s, e]
            · rw [updN_o y]
              rcases List.mem_append.mp hm with w | w
              · exact z m w
              · exact absurd (List.mem_singleton.mp w) y
          · intro z m hm
            have y : m ≠ n := fun w => hnA (by rw [← w]; exact hm)
            have := z m (List.mem_append_left _ hm)
            rw [updN_o y] at this
            exact this)
        rw [len1] at hr
        with_reducible refine xm_go_blk b_X5_merge_113 k_X5_merge_113 ?_
        refine by_iast (by first | exact rfl | assumption | exact ps_1 hpp | exact ps_2 hpp | exact ps_3 hpp | exact ps_4 hpp | exact ps_5 hpp | exact ps_6 hpp | exact ps_7 hpp | exact ps_8 hpp | exact ps_9 hpp | exact ps_10 hpp | exact ps_11 hpp | exact ps_15 hpp | exact ps_16 hpp | exact ps_17 hpp | exact ps_18 hpp | exact ps_19 hpp | exact ps_21 hpp | exact ps_22 hpp | exact ps_23 hpp | exact ps_24 hpp) ⟨by omega, by omega⟩ ?_
        refine by_aload_n rfl ?_
        refine by_getf cn_93 fl_5_24 (by first | exact rfl | assumption) (by decide) ?_
        refine by_iload rfl ?_
        simp (disch := first | exact Nat.ne_of_beq_eq_false rfl | exact rfl | omega) only [nI_add, xa_sub, xa_mul, pk_div, nm_mod, xa_shr, xa_and7, xa_and1, xa_and255, xa_by_and, nI_m1, Nat.add_sub_cancel, Nat.reducePow, Nat.zero_add, Nat.add_zero, Nat.reduceAdd, Nat.reduceMul, Nat.reduceSub, xf_same, xq_ff, xq_fo, xf_1, xf_2, xs_1, xs_2, xs_same, xq_so, xj_1, xj_2, xj_same, xq_jo, xq_sa1, xq_same, xq_other, upd_s, oI_n, oI_s, xf_7_5 F3, e']
        first | refine by_iald (by first | exact rfl | assumption | exact ps_1 hpp | exact ps_2 hpp | exact ps_3 hpp | exact ps_4 hpp | exact ps_5 hpp | exact ps_6 hpp | exact ps_7 hpp | exact ps_8 hpp | exact ps_9 hpp | exact ps_10 hpp | exact ps_11 hpp | exact ps_15 hpp | exact ps_16 hpp | exact ps_17 hpp | exact ps_18 hpp | exact ps_19 hpp | exact ps_21 hpp | exact ps_22 hpp | exact ps_23 hpp | exact ps_24 hpp) ⟨by omega, by omega⟩ ?_ | refine by_tald rfl rfl ⟨by omega, by omega⟩ ?_
        refine by_iload rfl ?_
        refine by_ic_eq 129 rfl ?_
        simp (disch := first | exact Nat.ne_of_beq_eq_false rfl | exact rfl | omega) only [nI_add, xa_sub, xa_mul, pk_div, nm_mod, xa_shr, xa_and7, xa_and1, xa_and255, xa_by_and, nI_m1, Nat.add_sub_cancel, Nat.reducePow, Nat.zero_add, Nat.add_zero, Nat.reduceAdd, Nat.reduceMul, Nat.reduceSub, xf_same, xq_ff, xq_fo, xf_1, xf_2, xs_1, xs_2, xs_same, xq_so, xj_1, xj_2, xj_same, xq_jo, xq_sa1, xq_same, xq_other, upd_s, oI_n, oI_s, xv_0, xv_1, xv_2, xv_3, xm_p1, xm_p2, xq_fp, xq_fn, List.filter_nil, Nat.reduceBEq, Bool.not_true, Bool.not_false, Bool.and_true, Bool.and_false, Bool.false_and, Bool.true_and, if_true, if_false, Bool.false_eq_true, reduceIte, xc_i, xc_j, xc_r, xc_n, List.nil_append, List.cons_append, Option.toList_some, Option.toList_none, nI_ltJ, nI_leJ, nI_eqJ, nI_ltz, nI_gez, nI_gtz, nI_lez, nI_eqz, m1_ltz, m1_gez, true_imp_iff, false_imp_iff, true_and, and_true, ne_eq, not_false_eq_true, not_true_eq_false, Nat.reduceEqDiff, Nat.reduceLT, Nat.reduceLeDiff, xf_7_5 F3, e']
        with_reducible refine xm_go_blk b_X5_merge_129 k_X5_merge_129 ?_
        refine by_iinc (by rw [ml_93]; decide) rfl ci_1 ?_
        refine by_goto 26 rfl ?_
        simp (disch := first | exact Nat.ne_of_beq_eq_false rfl | exact rfl | omega) only [nI_add, xa_sub, xa_mul, pk_div, nm_mod, xa_shr, xa_and7, xa_and1, xa_and255, xa_by_and, nI_m1, Nat.add_sub_cancel, Nat.reducePow, Nat.zero_add, Nat.add_zero, Nat.reduceAdd, Nat.reduceMul, Nat.reduceSub, xf_same, xq_ff, xq_fo, xf_1, xf_2, xs_1, xs_2, xs_same, xq_so, xj_1, xj_2, xj_same, xq_jo, xq_sa1, xq_same, xq_other, upd_s, oI_n, oI_s, xv_0, xv_1, xv_2, xv_3, xm_p1, xm_p2, xq_fp, xq_fn, List.filter_nil, Nat.reduceBEq, Bool.not_true, Bool.not_false, Bool.and_true, Bool.and_false, Bool.false_and, Bool.true_and, if_true, if_false, Bool.false_eq_true, reduceIte, xc_i, xc_j, xc_r, xc_n, List.nil_append, List.cons_append, Option.toList_some, Option.toList_none, xf_7_5 F3, e']
        exact xm_go_wk (by simp [Value.category]) hr
      · have e' : (v = n) = False := eq_false e
        have hr := ih (A ++ [n]) _ _ (cnt + 1) (by rw [hAB]; simp) hJ3 (by omega) (by
          constructor
          · intro z; omega
          · intro z
            have := z n (by simp)
            rw [updN_s] at this
            exact absurd this e)
        rw [len1] at hr
        with_reducible refine xm_go_blk b_X5_merge_113 k_X5_merge_113 ?_
        refine by_iast (by first | exact rfl | assumption | exact ps_1 hpp | exact ps_2 hpp | exact ps_3 hpp | exact ps_4 hpp | exact ps_5 hpp | exact ps_6 hpp | exact ps_7 hpp | exact ps_8 hpp | exact ps_9 hpp | exact ps_10 hpp | exact ps_11 hpp | exact ps_15 hpp | exact ps_16 hpp | exact ps_17 hpp | exact ps_18 hpp | exact ps_19 hpp | exact ps_21 hpp | exact ps_22 hpp | exact ps_23 hpp | exact ps_24 hpp) ⟨by omega, by omega⟩ ?_
        refine by_aload_n rfl ?_
        refine by_getf cn_93 fl_5_24 (by first | exact rfl | assumption) (by decide) ?_
        refine by_iload rfl ?_
        simp (disch := first | exact Nat.ne_of_beq_eq_false rfl | exact rfl | omega) only [nI_add, xa_sub, xa_mul, pk_div, nm_mod, xa_shr, xa_and7, xa_and1, xa_and255, xa_by_and, nI_m1, Nat.add_sub_cancel, Nat.reducePow, Nat.zero_add, Nat.add_zero, Nat.reduceAdd, Nat.reduceMul, Nat.reduceSub, xf_same, xq_ff, xq_fo, xf_1, xf_2, xs_1, xs_2, xs_same, xq_so, xj_1, xj_2, xj_same, xq_jo, xq_sa1, xq_same, xq_other, upd_s, oI_n, oI_s, xf_7_5 F3, e']
        first | refine by_iald (by first | exact rfl | assumption | exact ps_1 hpp | exact ps_2 hpp | exact ps_3 hpp | exact ps_4 hpp | exact ps_5 hpp | exact ps_6 hpp | exact ps_7 hpp | exact ps_8 hpp | exact ps_9 hpp | exact ps_10 hpp | exact ps_11 hpp | exact ps_15 hpp | exact ps_16 hpp | exact ps_17 hpp | exact ps_18 hpp | exact ps_19 hpp | exact ps_21 hpp | exact ps_22 hpp | exact ps_23 hpp | exact ps_24 hpp) ⟨by omega, by omega⟩ ?_ | refine by_tald rfl rfl ⟨by omega, by omega⟩ ?_
        refine by_iload rfl ?_
        refine by_ic_eq 129 rfl ?_
        simp (disch := first | exact Nat.ne_of_beq_eq_false rfl | exact rfl | omega) only [nI_add, xa_sub, xa_mul, pk_div, nm_mod, xa_shr, xa_and7, xa_and1, xa_and255, xa_by_and, nI_m1, Nat.add_sub_cancel, Nat.reducePow, Nat.zero_add, Nat.add_zero, Nat.reduceAdd, Nat.reduceMul, Nat.reduceSub, xf_same, xq_ff, xq_fo, xf_1, xf_2, xs_1, xs_2, xs_same, xq_so, xj_1, xj_2, xj_same, xq_jo, xq_sa1, xq_same, xq_other, upd_s, oI_n, oI_s, xv_0, xv_1, xv_2, xv_3, xm_p1, xm_p2, xq_fp, xq_fn, List.filter_nil, Nat.reduceBEq, Bool.not_true, Bool.not_false, Bool.and_true, Bool.and_false, Bool.false_and, Bool.true_and, if_true, if_false, Bool.false_eq_true, reduceIte, xc_i, xc_j, xc_r, xc_n, List.nil_append, List.cons_append, Option.toList_some, Option.toList_none, nI_ltJ, nI_leJ, nI_eqJ, nI_ltz, nI_gez, nI_gtz, nI_lez, nI_eqz, m1_ltz, m1_gez, true_imp_iff, false_imp_iff, true_and, and_true, ne_eq, not_false_eq_true, not_true_eq_false, Nat.reduceEqDiff, Nat.reduceLT, Nat.reduceLeDiff, xf_7_5 F3, e']
        with_reducible refine xm_go_blk b_X5_merge_126 k_X5_merge_126 ?_
        refine by_iinc (by rw [ml_93]; decide) rfl ci_1 ?_
        refine by_nil ?_
        simp (disch := first | exact Nat.ne_of_beq_eq_false rfl | exact rfl | omega) only [nI_add, xa_sub, xa_mul, pk_div, nm_mod, xa_shr, xa_and7, xa_and1, xa_and255, xa_by_and, nI_m1, Nat.add_sub_cancel, Nat.reducePow, Nat.zero_add, Nat.add_zero, Nat.reduceAdd, Nat.reduceMul, Nat.reduceSub, xf_same, xq_ff, xq_fo, xf_1, xf_2, xs_1, xs_2, xs_same, xq_so, xj_1, xj_2, xj_same, xq_jo, xq_sa1, xq_same, xq_other, upd_s, oI_n, oI_s, xv_0, xv_1, xv_2, xv_3, xm_p1, xm_p2, xq_fp, xq_fn, List.filter_nil, Nat.reduceBEq, Bool.not_true, Bool.not_false, Bool.and_true, Bool.and_false, Bool.false_and, Bool.true_and, if_true, if_false, Bool.false_eq_true, reduceIte, xc_i, xc_j, xc_r, xc_n, List.nil_append, List.cons_append, Option.toList_some, Option.toList_none, xf_7_5 F3, e']
        with_reducible refine xm_go_blk b_X5_merge_129 k_X5_merge_129 ?_
        refine by_iinc (by rw [ml_93]; decide) rfl ci_1 ?_
        refine by_goto 26 rfl ?_
        simp (disch := first | exact Nat.ne_of_beq_eq_false rfl | exact rfl | omega) only [nI_add, xa_sub, xa_mul, pk_div, nm_mod, xa_shr, xa_and7, xa_and1, xa_and255, xa_by_and, nI_m1, Nat.add_sub_cancel, Nat.reducePow, Nat.zero_add, Nat.add_zero, Nat.reduceAdd, Nat.reduceMul, Nat.reduceSub, xf_same, xq_ff, xq_fo, xf_1, xf_2, xs_1, xs_2, xs_same, xq_so, xj_1, xj_2, xj_same, xq_jo, xq_sa1, xq_same, xq_other, upd_s, oI_n, oI_s, xv_0, xv_1, xv_2, xv_3, xm_p1, xm_p2, xq_fp, xq_fn, List.filter_nil, Nat.reduceBEq, Bool.not_true, Bool.not_false, Bool.and_true, Bool.and_false, Bool.false_and, Bool.true_and, if_true, if_false, Bool.false_eq_true, reduceIte, xc_i, xc_j, xc_r, xc_n, List.nil_append, List.cons_append, Option.toList_some, Option.toList_none, xf_7_5 F3, e']
        exact xm_go_wk (by simp [Value.category]) hr
  have heads : ∀ (j i : Nat) (h1 : xm_H), i + j = 1024 → Fr [14] [] h h1 → (∀ q, q < i → h1.1 14 q = -1) → xm_go (XE sc) (xm_T (XE sc) (d + 2)) 93 post 4 [(3, .int (nI i)), (2, .int (nI 0)), (0, .ref 7), (1, .ref pp)] [] h1 := by
    intro j
    induction j with
    | zero =>
      intro i h1 hi hf hq
      have : i = 1024 := by omega
      subst this
      have hF1 : XF h1 := Fr_XF hF hf (by decide +kernel)
      with_reducible refine xm_go_blk b_X5_merge_4 k_X5_merge_4 ?_
      refine by_iload_n rfl ?_
      refine by_sipush cs_1024 ?_
      refine by_ic_ge 24 rfl ?_
      simp (disch := first | exact Nat.ne_of_beq_eq_false rfl | exact rfl | omega) only [nI_add, xa_sub, xa_mul, pk_div, nm_mod, xa_shr, xa_and7, xa_and1, xa_and255, xa_by_and, nI_m1, Nat.add_sub_cancel, Nat.reducePow, Nat.zero_add, Nat.add_zero, Nat.reduceAdd, Nat.reduceMul, Nat.reduceSub, xf_same, xq_ff, xq_fo, xf_1, xf_2, xs_1, xs_2, xs_same, xq_so, xj_1, xj_2, xj_same, xq_jo, xq_sa1, xq_same, xq_other, upd_s, oI_n, oI_s, xv_0, xv_1, xv_2, xv_3, xm_p1, xm_p2, xq_fp, xq_fn, List.filter_nil, Nat.reduceBEq, Bool.not_true, Bool.not_false, Bool.and_true, Bool.and_false, Bool.false_and, Bool.true_and, if_true, if_false, Bool.false_eq_true, reduceIte, xc_i, xc_j, xc_r, xc_n, List.nil_append, List.cons_append, Option.toList_some, Option.toList_none, nI_ltJ, nI_leJ, nI_eqJ, nI_ltz, nI_gez, nI_gtz, nI_lez, nI_eqz, m1_ltz, m1_gez, true_imp_iff, false_imp_iff, true_and, and_true, ne_eq, not_false_eq_true, not_true_eq_false, Nat.reduceEqDiff, Nat.reduceLT, Nat.reduceLeDiff]
      with_reducible refine xm_go_blk b_X5_merge_24 k_X5_merge_24 ?_
      refine by_iconst ci_0 ?_
      refine by_istore_n (by rw [ml_93]; decide) ?_
      refine by_nil ?_
      simp (disch := first | exact Nat.ne_of_beq_eq_false rfl | exact rfl | omega) only [nI_add, xa_sub, xa_mul, pk_div, nm_mod, xa_shr, xa_and7, xa_and1, xa_and255, xa_by_and, nI_m1, Nat.add_sub_cancel, Nat.reducePow, Nat.zero_add, Nat.add_zero, Nat.reduceAdd, Nat.reduceMul, Nat.reduceSub, xf_same, xq_ff, xq_fo, xf_1, xf_2, xs_1, xs_2, xs_same, xq_so, xj_1, xj_2, xj_same, xq_jo, xq_sa1, xq_same, xq_other, upd_s, oI_n, oI_s, xv_0, xv_1, xv_2, xv_3, xm_p1, xm_p2, xq_fp, xq_fn, List.filter_nil, Nat.reduceBEq, Bool.not_true, Bool.not_false, Bool.and_true, Bool.and_false, Bool.false_and, Bool.true_and, if_true, if_false, Bool.false_eq_true, reduceIte, xc_i, xc_j, xc_r, xc_n, List.nil_append, List.cons_append, Option.toList_some, Option.toList_none]
      refine xm_go_wk (by simp [Value.category]) (run L [] h1 (fun n => n) 0 rfl ⟨hF1, Fr_mo hf (by simp [mgR2]) (by simp), fun n hn => ⟨fun z => absurd z (by simp), fun _ => ?_⟩, fun n hn => absurd hn (by simp), fun A n B e => absurd e (by simp), hc_0 hq (fun i z => absurd z.1 (by simp))⟩ (Nat.zero_le _) ⟨fun _ n hn => absurd hn (by simp), fun _ => rfl⟩)
      obtain ⟨a1, a2, a3, a4, _⟩ := hD.1 n hn
      rw [hf.1 (pp + 2) (by simp <;> omega), hf.1 (pp + 3) (by simp <;> omega)]
      exact ⟨a3, a4⟩
    | succ j ih =>
      intro i h1 hi hf hq
      have hF1 : XF h1 := Fr_XF hF hf (by decide +kernel)
      with_reducible refine xm_go_blk b_X5_merge_4 k_X5_merge_4 ?_
      refine by_iload_n rfl ?_
      refine by_sipush cs_1024 ?_
      refine by_ic_ge 24 rfl ?_
      simp (disch := first | exact Nat.ne_of_beq_eq_false rfl | exact rfl | omega) only [nI_add, xa_sub, xa_mul, pk_div, nm_mod, xa_shr, xa_and7, xa_and1, xa_and255, xa_by_and, nI_m1, Nat.add_sub_cancel, Nat.reducePow, Nat.zero_add, Nat.add_zero, Nat.reduceAdd, Nat.reduceMul, Nat.reduceSub, xf_same, xq_ff, xq_fo, xf_1, xf_2, xs_1, xs_2, xs_same, xq_so, xj_1, xj_2, xj_same, xq_jo, xq_sa1, xq_same, xq_other, upd_s, oI_n, oI_s, xv_0, xv_1, xv_2, xv_3, xm_p1, xm_p2, xq_fp, xq_fn, List.filter_nil, Nat.reduceBEq, Bool.not_true, Bool.not_false, Bool.and_true, Bool.and_false, Bool.false_and, Bool.true_and, if_true, if_false, Bool.false_eq_true, reduceIte, xc_i, xc_j, xc_r, xc_n, List.nil_append, List.cons_append, Option.toList_some, Option.toList_none, nI_ltJ, nI_leJ, nI_eqJ, nI_ltz, nI_gez, nI_gtz, nI_lez, nI_eqz, m1_ltz, m1_gez, true_imp_iff, false_imp_iff, true_and, and_true, ne_eq, not_false_eq_true, not_true_eq_false, Nat.reduceEqDiff, Nat.reduceLT, Nat.reduceLeDiff, xf_7_7 hF1]
      refine ⟨fun c => absurd c (by omega), fun c4 => ?_⟩
      with_reducible refine xm_go_blk b_X5_merge_11 k_X5_merge_11 ?_
      refine by_aload_n rfl ?_
      refine by_getf cn_93 fl_5_30 (by first | exact rfl | assumption) (by decide) ?_
      refine by_iload_n rfl ?_
      refine by_iconst ci_m1 ?_
      simp (disch := first | exact Nat.ne_of_beq_eq_false rfl | exact rfl | omega) only [nI_add, xa_sub, xa_mul, pk_div, nm_mod, xa_shr, xa_and7, xa_and1, xa_and255, xa_by_and, nI_m1, Nat.add_sub_cancel, Nat.reducePow, Nat.zero_add, Nat.add_zero, Nat.reduceAdd, Nat.reduceMul, Nat.reduceSub, xf_same, xq_ff, xq_fo, xf_1, xf_2, xs_1, xs_2, xs_same, xq_so, xj_1, xj_2, xj_same, xq_jo, xq_sa1, xq_same, xq_other, upd_s, oI_n, oI_s, xf_7_7 hF1]
      refine by_iast (by first | exact rfl | assumption | exact ps_1 hpp | exact ps_2 hpp | exact ps_3 hpp | exact ps_4 hpp | exact ps_5 hpp | exact ps_6 hpp | exact ps_7 hpp | exact ps_8 hpp | exact ps_9 hpp | exact ps_10 hpp | exact ps_11 hpp | exact ps_15 hpp | exact ps_16 hpp | exact ps_17 hpp | exact ps_18 hpp | exact ps_19 hpp | exact ps_21 hpp | exact ps_22 hpp | exact ps_23 hpp | exact ps_24 hpp) ⟨by omega, by omega⟩ ?_
      refine by_iinc (by rw [ml_93]; decide) rfl ci_1 ?_
      refine by_goto 4 rfl ?_
      simp (disch := first | exact Nat.ne_of_beq_eq_false rfl | exact rfl | omega) only [nI_add, xa_sub, xa_mul, pk_div, nm_mod, xa_shr, xa_and7, xa_and1, xa_and255, xa_by_and, nI_m1, Nat.add_sub_cancel, Nat.reducePow, Nat.zero_add, Nat.add_zero, Nat.reduceAdd, Nat.reduceMul, Nat.reduceSub, xf_same, xq_ff, xq_fo, xf_1, xf_2, xs_1, xs_2, xs_same, xq_so, xj_1, xj_2, xj_same, xq_jo, xq_sa1, xq_same, xq_other, upd_s, oI_n, oI_s, xv_0, xv_1, xv_2, xv_3, xm_p1, xm_p2, xq_fp, xq_fn, List.filter_nil, Nat.reduceBEq, Bool.not_true, Bool.not_false, Bool.and_true, Bool.and_false, Bool.false_and, Bool.true_and, if_true, if_false, Bool.false_eq_true, reduceIte, xc_i, xc_j, xc_r, xc_n, List.nil_append, List.cons_append, Option.toList_some, Option.toList_none, xf_7_7 hF1]
      refine xm_go_wk (by simp [Value.category]) (ih (i + 1) _ (by omega) (Fr_si hf (by simp)) (fun q hq' => ?_))
      by_cases e : q = i
      · subst e
        rw [xs_same, upd_s]
      · rw [xs_same, upd_o e]; exact hq q (by omega)
  refine xq_in rfl ?_
  simp only [xq_a0, xq_aI, xq_aJ, xq_aR, Nat.reduceAdd]
  with_reducible refine xm_go_blk b_X5_merge_0 k_X5_merge_0 ?_
  refine by_iconst ci_0 ?_
  refine by_istore_n (by rw [ml_93]; decide) ?_
  refine by_iconst ci_0 ?_
  refine by_istore_n (by rw [ml_93]; decide) ?_
  refine by_nil ?_
  simp (disch := first | exact Nat.ne_of_beq_eq_false rfl | exact rfl | omega) only [nI_add, xa_sub, xa_mul, pk_div, nm_mod, xa_shr, xa_and7, xa_and1, xa_and255, xa_by_and, nI_m1, Nat.add_sub_cancel, Nat.reducePow, Nat.zero_add, Nat.add_zero, Nat.reduceAdd, Nat.reduceMul, Nat.reduceSub, xf_same, xq_ff, xq_fo, xf_1, xf_2, xs_1, xs_2, xs_same, xq_so, xj_1, xj_2, xj_same, xq_jo, xq_sa1, xq_same, xq_other, upd_s, oI_n, oI_s, xv_0, xv_1, xv_2, xv_3, xm_p1, xm_p2, xq_fp, xq_fn, List.filter_nil, Nat.reduceBEq, Bool.not_true, Bool.not_false, Bool.and_true, Bool.and_false, Bool.false_and, Bool.true_and, if_true, if_false, Bool.false_eq_true, reduceIte, xc_i, xc_j, xc_r, xc_n, List.nil_append, List.cons_append, Option.toList_some, Option.toList_none]
  exact xm_go_wk (by simp [Value.category]) (heads 1024 0 h rfl Fr_rf (fun q hq => absurd hq (by omega)))
end MG
theorem opt_id {c : Option Nat} {tw : Nat → Nat} (h : ∀ x, c = some x → tw x = x) : c.map tw = c := by
  cases c with
  | none => rfl
  | some x => simp only [Option.map_some]; rw [h x rfl]
theorem smK_id {cd : Nat → Nat} {c1 c2 : Nat → Option Nat} {D SO TA : Nat → Int32} {W : Nat → Nat → Int32} {tw : Nat → Nat} {a b : Nat} (ha : ∀ x, (c1 a = some x ∨ c2 a = some x) → tw x = x) (hb : ∀ x, (c1 b = some x ∨ c2 b = some x) → tw x = x) : smK cd c1 c2 D SO TA W tw a b ↔ smK cd c1 c2 D SO TA W (fun n => n) a b := by
  unfold smK
  rw [opt_id (fun x hx => ha x (Or.inl hx)), opt_id (fun x hx => ha x (Or.inr hx)), opt_id (fun x hx => hb x (Or.inl hx)), opt_id (fun x hx => hb x (Or.inr hx)), Option.map_id', Option.map_id', Option.map_id', Option.map_id']
/-- none stands for another just when no two are the same -/
theorem tw_none {cd : Nat → Nat} {c1 c2 : Nat → Option Nat} {D SO TA : Nat → Int32} {W : Nat → Nat → Int32} {tw : Nat → Nat} {L : List Nat} (hR : twR (smK cd c1 c2 D SO TA W) L tw) (hnd : L.Nodup) (hcl : df_cl c1 c2 L) : (∀ n ∈ L, tw n = n) ↔ ∀ A n B, L = A ++ n :: B → ∀ m ∈ A, ¬ smK cd c1 c2 D SO TA W (fun n => n) m n := by
  constructor
  · intro h A n B e m hm hsm
    have hmL : m ∈ L := by rw [e]; exact List.mem_append_left _ hm
    have hnL : n ∈ L := by rw [e]; simp
    have hid : ∀ a ∈ L, ∀ x, (c1 a = some x ∨ c2 a = some x) → tw x = x := by
      intro a ha x hx
      obtain ⟨X, Y, e'⟩ := List.append_of_mem ha
      exact h x (by rw [e']; exact List.mem_append_left _ (hcl X a Y e' x hx))
    have hs := (smK_id (hid m hmL) (hid n hnL)).mpr hsm
    rcases hR A n B e with ⟨_, q⟩ | ⟨q, q2, q3⟩
    · exact q m hm (h m hmL) hs
    · rw [h n hnL] at q
      rw [e] at hnd
      exact (List.nodup_append.mp hnd).2.2 n q n (List.mem_cons_self ..) rfl
  · intro h
    have key : ∀ (j : Nat) (A B : List Nat), A.length = j → L = A ++ B → ∀ n ∈ A, tw n = n := by
      intro j
      induction j with
      | zero => intro A B hA _ n hn; rw [List.length_eq_zero_iff.mp hA] at hn; exact absurd hn (by simp)
      | succ j ih =>
        intro A0 B hA e m hm
        obtain ⟨A, n, rfl⟩ : ∃ A n, A0 = A ++ [n] := by
          rcases List.eq_nil_or_concat A0 with rfl | ⟨A, n, rfl⟩
          · cases hA
          · exact ⟨A, n, by rw [List.concat_eq_append]⟩
        have e' : L = A ++ n :: B := by rw [e]; simp
        have ihA := ih A (n :: B) (by simpa using hA) e'
        rcases List.mem_append.mp hm with z | z
        · exact ihA m z
        · rw [List.mem_singleton.mp z]
          rcases hR A n B e' with ⟨q, _⟩ | ⟨q, q2, q3⟩
          · exact q
          · have hch : ∀ a, a ∈ A ∨ a = n → ∀ x, (c1 a = some x ∨ c2 a = some x) → tw x = x := by
              intro a ha x hx
              rcases ha with ha | ha
              · obtain ⟨X, Y, e2⟩ := List.append_of_mem ha
                exact ihA x (by rw [e2]; exact List.mem_append_left _ (hcl X a (Y ++ n :: B) (by rw [e', e2]; simp) x hx))
              · rw [ha] at hx
                exact ihA x (hcl A n B e' x hx)
            exact absurd ((smK_id (hch _ (Or.inl q)) (hch n (Or.inr rfl))).mp q3) (h A n B e' _ q)
    intro n hn
    exact key L.length L [] rfl (by simp) n hn
