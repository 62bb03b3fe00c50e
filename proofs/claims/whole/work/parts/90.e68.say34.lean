/-! ===== say: the class's nodes that are the same; what sInv gives ===== -/
section SI
variable {t w : List Nat} {NL : List (List Nat × Nat)} {G : sG} {n : Nat}
/-- what a program that is made gives -/
theorem sI_all (hI : sInv t (NL ++ [(w, n)]) G []) : sCt G ≤ 2000 ∧ n < sCt G ∧ df_cN (sC1 G) (sC2 G) (sCt G) ∧ (∃ rk, df_ac (sC1 G) (sC2 G) (sCt G) rk) ∧ ndO (sCd G) (sC1 G) (sC2 G) (sCt G) ∧ (∀ m, m < sCt G → sNo t G m ∧ (sCd G m ≠ 10 → sNu G m ≤ 167) ∧ (sCd G m ≠ 10 → sCd G m ≠ 12 → sNu G m = 0)) ∧ ∀ L, df_out (sC1 G) (sC2 G) n L → L.Nodup ∧ (∀ x ∈ L, x < sCt G) ∧ df_cl (sC1 G) (sC2 G) L ∧ n ∈ L ∧ 1 ≤ L.length ∧ L.getD (L.length - 1) 0 = n := by
  obtain ⟨⟨rk, M, hd⟩, hN⟩ := hI
  obtain ⟨k1, k2⟩ := hN (w, n) (by simp)
  have e0 : ∀ m, m ∉ stl [] := fun m z => nomatch z
  refine ⟨hd.1, k1, sOK_cN hd, ⟨_, sOK_ac hd⟩, fun m hm => ?_, fun m hm => ?_, fun L ho => ?_⟩
  · exact ⟨((hd.2.2.2 m hm).2.2.1 (e0 m)).2.1, ((hd.2.2.2 m hm).2.2.1 (e0 m)).2.2⟩
  · obtain ⟨b1, b2, b3, b4, b5, b6, b7, b8, b9⟩ := hd.2.2.2 m hm
    refine ⟨⟨b1, b5, b8, b9⟩, fun z => ?_, fun z z2 => b7 (by omega)⟩
    by_cases e : sCd G m = 12
    · exact b5 e
    · rw [b7 (by omega)]; decide
  · obtain ⟨l1, l2, l3, o, l4⟩ := sOK_L hd k1 k2 ho
    refine ⟨l1, fun x hx => (l2 x hx).1, l3, by rw [l4]; simp, by rw [l4]; simp, by rw [l4]; simp [List.getD]⟩
end SI
section SK
variable {h : xm_H} {pp nh cn : Nat} {t w : List Nat} {NL : List (List Nat × Nat)} {G : sG} {n : Nat} {hx : Nat → Nat} {S T tr : Nat → Ty} {K Lf R : Nat → Nat} {L : List Nat}
theorem cG0_K (hI : sInv t (NL ++ [(w, n)]) G []) (hC : cG0 h pp G hx nh) : ndK h pp (sCt G) (sCd G) (sC1 G) (sC2 G) := by
  obtain ⟨_, _, i3, _, _, i6, _⟩ := sI_all hI
  intro m hm
  obtain ⟨a1, a2, a3, _⟩ := hC m hm
  exact ⟨a1, (i6 m hm).1.1, a2, a3, fun x hx => i3 m hm x (Or.inl hx), fun x hx => i3 m hm x (Or.inr hx)⟩
theorem mgK_G (hI : sInv t (NL ++ [(w, n)]) G []) (hC : cG0 h pp G hx nh) (hT : tyT h pp cn tr K Lf R) (hcn : cn ≤ 14026) (hY : tyN h pp (sCd G) L S T cn tr) (hL : ∀ x ∈ L, x < sCt G) {tw : Nat → Nat} {a b : Nat} (ha : a ∈ L) (hb : b ∈ L) : mgK h pp (sCd G) hx (sC1 G) (sC2 G) tw a b ↔ smG G S T tw a b := by
  obtain ⟨_, _, _, _, _, i6, _⟩ := sI_all hI
  obtain ⟨x1, x2, x3, x5, x4, x11⟩ := hC a (hL a ha)
  obtain ⟨y1, y2, y3, y5, y4, y11⟩ := hC b (hL b hb)
  have ua := (i6 a (hL a ha)).2.1
  have ub := (i6 b (hL b hb)).2.1
  have inj : ∀ {i j : Nat}, i < cn → j < cn → (nI i = nI j ↔ tr i = tr j) := fun {i j} hi hj => ⟨fun z => by rw [(nI_eq (by omega) (by omega)).mp z], fun z => by rw [hT.2.2.1 i j hi hj z]⟩
  unfold mgK smK smG
  constructor
  · rintro ⟨h1, h2, h3, h4⟩
    refine ⟨h1, h2, fun e k hk => ?_, fun e => ?_⟩
    · have := h3 e k hk
      unfold mgW at this
      rw [(x11 e).2.2 k hk, (y11 (h1.symm.trans e)).2.2 k hk] at this
      exact this
    · obtain ⟨m1, m2, m3, m4, m5⟩ := h4 e
      obtain ⟨i, j, i1, i2, i3, i4, i5, i6⟩ := hY.1 a ha e
      obtain ⟨i', j', j1, j2, j3, j4, j5, j6⟩ := hY.1 b hb (fun z => e (h1.trans z))
      rw [x4 e, y4 (fun z => e (h1.trans z))] at m3
      rw [i3, j3, inj i1 j1, i4, j4] at m4
      rw [i5, j5, inj i2 j2, i6, j6] at m5
      have ua := ua h2
      have ub := ub (fun z => h2 (h1.trans z))
      exact ⟨m1, m2, (nI_eq (by omega) (by omega)).mp m3, m4, m5⟩
  · rintro ⟨h1, h2, h3, h4⟩
    refine ⟨h1, h2, fun e k hk => ?_, fun e => ?_⟩
    · unfold mgW
      rw [(x11 e).2.2 k hk, (y11 (h1.symm.trans e)).2.2 k hk]
      exact h3 e k hk
    · obtain ⟨m1, m2, m3, m4, m5⟩ := h4 e
      obtain ⟨i, j, i1, i2, i3, i4, i5, i6⟩ := hY.1 a ha e
      obtain ⟨i', j', j1, j2, j3, j4, j5, j6⟩ := hY.1 b hb (fun z => e (h1.trans z))
      rw [x4 e, y4 (fun z => e (h1.trans z)), i3, j3, i5, j5, m3, inj i1 j1, inj i2 j2, i4, j4, i6, j6]
      exact ⟨m1, m2, rfl, m4, m5⟩
end SK
