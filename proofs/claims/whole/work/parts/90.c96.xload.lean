/-! ===== the class: load ===== -/
theorem LdG_0 {l : List Nat} {ps : List pr_D} {a : Nat} {S T : Nat → Ty} (h : LdG l ps a 0 S T) : df_out (p1 ps) (p2 ps) (ps.length - 1) (List.range ps.length) ∧ ¬ bad7 ps ∧ ty_least (pC ps) (fiO (p1 ps)) (fiO (p2 ps)) (pNu ps) (List.range ps.length) S T ∧ ¬ jdW (pC ps) (List.range ps.length) S T ∧ wf (by_bit l) (8 * l.length) a ps.length (pC ps) T = 0 := by
  rcases h with ⟨_, z⟩ | ⟨h1, h⟩
  · cases z
  · rcases h with ⟨_, z⟩ | ⟨h2, h⟩
    · cases z
    · rcases h with ⟨_, z⟩ | ⟨h3, h⟩
      · cases z
      · rcases h with ⟨_, z⟩ | ⟨h4, h⟩
        · cases z
        · rcases h with ⟨_, z⟩ | ⟨h5, h⟩
          · cases z
          · exact ⟨h1, h2, h3, h4, h.symm⟩
theorem nb7 {ps : List pr_D} (h : ¬ bad7 ps) {n : Nat} (hn : n < ps.length) (hc : pC ps n ≠ 1) : (∀ x, p1 ps n = some x → pC ps x ≠ 11) ∧ ∀ x, p2 ps n = some x → pC ps x ≠ 11 := by
  have hw : hwl (pC ps) (p1 ps) (p2 ps) n = true := by
    cases e : hwl (pC ps) (p1 ps) (p2 ps) n
    · exact absurd (Or.inr ⟨n, List.mem_range.mpr hn, e⟩) h
    · rfl
  unfold hwl at hw
  rw [if_neg hc] at hw
  simp only [Bool.and_eq_true, Bool.not_eq_true'] at hw
  refine ⟨fun x hx z => ?_, fun x hx z => ?_⟩
  · have := hw.1
    rw [hx] at this
    simp [hid, z] at this
  · have := hw.2
    rw [hx] at this
    simp [hid, z] at this
/-- a program that was loaded, for what follows -/
theorem PF_bd {h : xm_H} {pp a : Nat} {l : List Nat} {ps : List pr_D} {S T : Nat → Ty} (hP : PF h pp l ps a S T) (hG : LdG l ps a 0 S T) : ∃ cn tr K Lf R k b, bdP h pp ps S T cn tr K Lf R ∧ ciD h pp b ps T ∧ pr_nat (by_bit l) (8 * l.length) a = .ok (k, b) := by
  obtain ⟨g1, g2, g3, g4, g5⟩ := LdG_0 hG
  obtain ⟨ho, hN1, hN2, c0, hrow, ⟨k, b, e1, e2, e3⟩, ⟨hx, nh, c1, c2, c3⟩, cn, tr, K, Lf, R, hcn, hT, hY⟩ := hP
  refine ⟨cn, tr, K, Lf, R, k, b, ⟨ho, hN2, c0, fun n hn => ⟨(c3 n hn).1, (c3 n hn).2.1, (c3 n hn).2.2.1⟩, (by omega), hT, hY, fun n hn hv => ?_, fun n hn q x hx => (nb7 g2 hn (by omega)).1 x hx⟩, fun n hn => ⟨fun q => e3 n hn q, fun q => (c3 n hn).2.2.2.1 (by omega) (by omega)⟩, e1⟩
  refine ⟨?_, ?_⟩
  · refine Classical.byContradiction fun z => g4 ⟨n, List.mem_range.mpr hn, hv, Or.inl (by omega)⟩
  · refine Classical.byContradiction fun z => g4 ⟨n, List.mem_range.mpr hn, hv, Or.inr (by omega)⟩
theorem PF_fr {SS : List Nat} {TT : List (Nat × Nat)} {h h' : xm_H} {pp a : Nat} {l : List Nat} {ps : List pr_D} {S T : Nat → Ty} (hP : PF h pp l ps a S T) (hf : Fr SS TT h h') (f0 : (pp, 0) ∉ TT) (f14 : (pp, 14) ∉ TT) (f15 : (pp, 15) ∉ TT) (fb0 : (pp + 12, 0) ∉ TT) (fb1 : (pp + 12, 1) ∉ TT) (ft : (pp + 14, 0) ∉ TT) (r1 : pp + 1 ∉ SS) (r2 : pp + 2 ∉ SS) (r3 : pp + 3 ∉ SS) (r4 : pp + 4 ∉ SS) (r6 : pp + 6 ∉ SS) (r7 : pp + 7 ∉ SS) (r11 : pp + 11 ∉ SS) (r13 : pp + 13 ∉ SS) (rt : ∀ q, q ∈ taR pp → q ∉ SS) : PF h' pp l ps a S T := by
  obtain ⟨ho, hN1, hN2, c0, hrow, ⟨k, b, e1, e2, e3⟩, ⟨hx, nh, c1, c2, c3⟩, cn, tr, K, Lf, R, hcn, hT, hY⟩ := hP
  refine ⟨ho, hN1, hN2, by rw [hf.2.2 _ _ f0]; exact c0, rowIs_fr hrow hf r13 fb0 fb1, ⟨k, b, e1, by rw [hf.2.2 _ _ f14]; exact e2, fun m hm hc => by rw [hf.1 _ r4]; exact e3 m hm hc⟩, ⟨hx, nh, c1, by rw [hf.2.2 _ _ f15]; exact c2, fun n hn => ?_⟩, cn, tr, K, Lf, R, hcn, tyT_fr hT hf ft rt, ?_⟩
  · rw [hf.1 _ r1, hf.1 _ r2, hf.1 _ r3, hf.1 _ r4, hf.1 _ r11]
    exact c3 n hn
  · unfold tyN
    rw [hf.1 _ r6, hf.1 _ r7]
    exact hY
section XL
variable {sc : xm_Sc} {d pp qq W : Nat} {l : List Nat} {h : xm_H} {post : xm_Po}
theorem sp_forget (hp : post none (xm_sf (xm_sf h 40 5 (.int (nI 0))) 40 6 (.int (nI 0)))) : xm_T (XE sc) (d + 1) 121 [.ref 40] h post := by
  refine xq_in rfl ?_
  simp only [xq_a0, xq_aI, xq_aJ, xq_aR, Nat.reduceAdd]
  with_reducible refine xm_go_blk b_X7_forget_0 k_X7_forget_0 ?_
  refine by_aload_n rfl ?_
  refine by_iconst ci_0 ?_
  refine by_putf cn_121 fl_7_24 (by first | exact rfl | assumption) (by decide) nf_7_5 ft_7_5 (by first | rfl | assumption) (by first | rfl | assumption) ?_
  refine by_aload_n rfl ?_
  refine by_iconst ci_0 ?_
  refine by_putf cn_121 fl_7_28 (by first | exact rfl | assumption) (by decide) nf_7_6 ft_7_6 (by first | rfl | assumption) (by first | rfl | assumption) ?_
  refine by_ret ry_121 ?_
  exact hp
end XL
