/-! ===== Loader: behind the nodes ===== -/
def lgR (pp : Nat) : List Nat := [8, 9, 10, 11, 12, 13, 14, 16, 17, 18, 19, 20, 21, pp + 1, pp + 2, pp + 3, pp + 4, pp + 5, pp + 6, pp + 7, pp + 11, pp + 13, pp + 15, pp + 16, pp + 17, pp + 18, pp + 19, pp + 20, pp + 21, pp + 22, pp + 23, pp + 24]
def lgT (pp : Nat) : List (Nat × Nat) := [(7, 2), (7, 9), (15, 6), (15, 7), (45, 1), (45, 2), (45, 3), (45, 4), (45, 5), (pp, 0), (pp, 14), (pp, 15), (pp + 12, 1), (pp + 12, 2), (pp + 12, 3), (pp + 14, 0), (pp + 14, 11)]
theorem lg_fin {pp : Nat} (hpp : pp = 52 ∨ pp = 77) : xt_fin.all (fun q => !((lgT pp).contains (q.1, q.2.1))) = true := by rcases hpp with rfl | rfl <;> decide +kernel
def ordI (h : xm_H) (W : Nat) : Prop := h.2.2 7 9 = .int (nI W) ∧ ∀ x, x < 2000 → ∃ k, k ≤ W ∧ h.1 10 x = nI k
/-- a program that was loaded, in the class's rows -/
def PF (h : xm_H) (pp : Nat) (l : List Nat) (ps : List pr_D) (a : Nat) (S T : Nat → Ty) : Prop :=
  psOK ps ∧ 1 ≤ ps.length ∧ ps.length ≤ 400 ∧ h.2.2 pp 0 = .int (nI ps.length) ∧ rowIs h (pp + 12) (pp + 13) l ∧ (∃ k b, pr_nat (by_bit l) (8 * l.length) a = .ok (k, b) ∧ h.2.2 pp 14 = .int (nI (k - 1)) ∧ (∀ m, m < ps.length → pC ps m = 10 → h.1 (pp + 4) m = nI (b + wsum (pC ps) T m))) ∧
  (∃ (hx : Nat → Nat) (nh : Nat), nh ≤ 255 ∧ h.2.2 pp 15 = .int (nI nh) ∧ ∀ n, n < ps.length → h.1 (pp + 1) n = nI (pC ps n) ∧ h.1 (pp + 2) n = oI (p1 ps n) ∧ h.1 (pp + 3) n = oI (p2 ps n) ∧ (pC ps n ≠ 10 → pC ps n ≠ 11 → h.1 (pp + 4) n = nI (pNu ps n)) ∧ (pC ps n = 11 → h.1 (pp + 4) n = nI (8 * hx n) ∧ hx n < nh ∧ ∀ k, k < 8 → h.1 (pp + 11) (8 * hx n + k) = nI (pHw ps n k))) ∧
  ∃ (cn : Nat) (tr : Nat → Ty) (K Lf R : Nat → Nat), cn ≤ 2826 ∧ tyT h pp cn tr K Lf R ∧ tyN h pp (pC ps) (List.range ps.length) S T cn tr
theorem ndC_K {h : xm_H} {pp nh : Nat} {ps : List pr_D} {hx : Nat → Nat} (hC : ndC h pp ps hx nh) (ho : psOK ps) : ndK h pp ps.length (pC ps) (p1 ps) (p2 ps) := by
  intro n hn
  obtain ⟨a1, a2, a3, a4, a5⟩ := hC.2.2.2 n hn
  obtain ⟨b1, b2, b3, b4, b5, b6, b7⟩ := ho n hn
  exact ⟨a1, b1, a2, a3, fun x hx => by have := b4 x hx; omega, fun x hx => by have := b5 x hx; omega⟩
theorem ndC_D {h : xm_H} {pp nh : Nat} {ps : List pr_D} {hx : Nat → Nat} (hC : ndC h pp ps hx nh) (ho : psOK ps) : mgD h pp ps.length (pC ps) hx (p1 ps) (p2 ps) := by
  refine ⟨ndC_K hC ho, fun n hn hc => ?_⟩
  obtain ⟨a1, a2, a3, a4, a5⟩ := hC.2.2.2 n hn
  obtain ⟨b1, b2, b3⟩ := a5 hc
  have := hC.2.2.1
  exact ⟨b1, by omega⟩
theorem ndC_fr {S : List Nat} {T : List (Nat × Nat)} {h h' : xm_H} {pp nh : Nat} {ps : List pr_D} {hx : Nat → Nat} (hC : ndC h pp ps hx nh) (hf : Fr S T h h') (h0 : (pp, 0) ∉ T) (h15 : (pp, 15) ∉ T) (r1 : pp + 1 ∉ S) (r2 : pp + 2 ∉ S) (r3 : pp + 3 ∉ S) (r4 : pp + 4 ∉ S) (r11 : pp + 11 ∉ S) : ndC h' pp ps hx nh := by
  obtain ⟨c1, c2, c3, c4⟩ := hC
  refine ⟨by rw [hf.2.2 _ _ h0]; exact c1, by rw [hf.2.2 _ _ h15]; exact c2, c3, fun j hj => ?_⟩
  have := c4 j hj
  unfold ndC1 at this ⊢
  rw [hf.1 _ r1, hf.1 _ r2, hf.1 _ r3, hf.1 _ r4, hf.1 _ r11]
  exact this
/-- sameness, by rows and by what was read -/
theorem mgK_P {h : xm_H} {pp nh cn : Nat} {ps : List pr_D} {hx : Nat → Nat} {S T tr : Nat → Ty} {K Lf R : Nat → Nat} (hC : ndC h pp ps hx nh) (ho : psOK ps) (hT : tyT h pp cn tr K Lf R) (hcn : cn ≤ 14026) (hY : tyN h pp (pC ps) (List.range ps.length) S T cn tr) {a b : Nat} (ha : a < ps.length) (hb : b < ps.length) : mgK h pp (pC ps) hx (p1 ps) (p2 ps) (fun n => n) a b ↔ smP ps S T a b := by
  obtain ⟨x1, x2, x3, x4, x5⟩ := hC.2.2.2 a ha
  obtain ⟨y1, y2, y3, y4, y5⟩ := hC.2.2.2 b hb
  have idm : ∀ c : Option Nat, c.map (fun n => n) = c := fun c => by cases c <;> rfl
  have inj : ∀ {i j : Nat}, i < cn → j < cn → (nI i = nI j ↔ tr i = tr j) := fun {i j} hi hj => ⟨fun z => by rw [(nI_eq (by omega) (by omega)).mp z], fun z => by rw [hT.2.2.1 i j hi hj z]⟩
  unfold mgK smK smP
  constructor
  · rintro ⟨h1, h2, h3, h4⟩
    refine ⟨h1, h2, fun e k hk => ?_, fun e => ?_⟩
    · have := h3 e k hk
      unfold mgW at this
      rw [(x5 e).2.2 k hk, (y5 (h1.symm.trans e)).2.2 k hk] at this
      exact this
    · obtain ⟨m1, m2, m3, m4, m5⟩ := h4 e
      rw [idm, idm] at m1 m2
      obtain ⟨i, j, i1, i2, i3, i4, i5, i6⟩ := hY.1 a (List.mem_range.mpr ha) e
      obtain ⟨i', j', j1, j2, j3, j4, j5, j6⟩ := hY.1 b (List.mem_range.mpr hb) (fun z => e (h1.trans z))
      rw [x4 e, y4 (fun z => e (h1.trans z))] at m3
      rw [i3, j3, inj i1 j1, i4, j4] at m4
      rw [i5, j5, inj i2 j2, i6, j6] at m5
      have ua : pNu ps a ≤ 167 := (ho a ha).2.2.2.2.2.1
      have ub : pNu ps b ≤ 167 := (ho b hb).2.2.2.2.2.1
      exact ⟨m1, m2, (nI_eq (by omega) (by omega)).mp m3, m4, m5⟩
  · rintro ⟨h1, h2, h3, h4⟩
    refine ⟨h1, h2, fun e k hk => ?_, fun e => ?_⟩
    · unfold mgW
      rw [(x5 e).2.2 k hk, (y5 (h1.symm.trans e)).2.2 k hk]
      exact h3 e k hk
    · obtain ⟨m1, m2, m3, m4, m5⟩ := h4 e
      rw [idm, idm, idm, idm]
      obtain ⟨i, j, i1, i2, i3, i4, i5, i6⟩ := hY.1 a (List.mem_range.mpr ha) e
      obtain ⟨i', j', j1, j2, j3, j4, j5, j6⟩ := hY.1 b (List.mem_range.mpr hb) (fun z => e (h1.trans z))
      refine ⟨m1, m2, ?_, ?_, ?_⟩
      · rw [x4 e, y4 (fun z => e (h1.trans z))]; exact congrArg nI m3
      · rw [i3, j3, inj i1 j1, i4, j4]; exact m4
      · rw [i5, j5, inj i2 j2, i6, j6]; exact m5
theorem rg_split {N : Nat} {A B : List Nat} {n : Nat} (e : List.range N = A ++ n :: B) : A = List.range n ∧ n < N := by
  have hn : n < N := List.mem_range.mp (by rw [e]; simp)
  have hA : A.length = n := by
    have h1 : (List.range N)[A.length]? = some n := by rw [e]; simp
    have hl : A.length < N := by
      have := congrArg List.length e
      simp at this; omega
    rw [List.getElem?_range hl] at h1
    cases h1; rfl
  refine ⟨?_, hn⟩
  have h2 := congrArg (List.take n) e
  rw [List.take_range, Nat.min_eq_left (by omega), List.take_append_of_le_length (by omega), ← hA, List.take_length] at h2
  rw [← hA]
  exact h2.symm
