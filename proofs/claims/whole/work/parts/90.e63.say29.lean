/-! ===== say: what a program that was made must answer ===== -/
def smG (G : sG) (S T : Nat → Ty) (tw : Nat → Nat) (a b : Nat) : Prop := sCd G a = sCd G b ∧ sCd G a ≠ 10 ∧ (sCd G a = 11 → ∀ k, k < 8 → nI (sHw G a k) = nI (sHw G b k)) ∧ (sCd G a ≠ 11 → (sC1 G a).map tw = (sC1 G b).map tw ∧ (sC2 G a).map tw = (sC2 G b).map tw ∧ sNu G a = sNu G b ∧ S a = S b ∧ T a = T b)
/-- children, each by what stands for it -/
def mC (c : Nat → Option Nat) (L : List Nat) (tw : Nat → Nat) : Nat → Option Nat := fun n => if n ∈ L then (c n).map tw else c n
theorem mC_i {c : Nat → Option Nat} {L : List Nat} {tw : Nat → Nat} {n : Nat} (h : n ∈ L) : mC c L tw n = (c n).map tw := if_pos h
theorem mC_o {c : Nat → Option Nat} {L : List Nat} {tw : Nat → Nat} {n : Nat} (h : n ∉ L) : mC c L tw n = c n := if_neg h
section TW
variable {sm sm' : (Nat → Nat) → Nat → Nat → Prop} {L : List Nat} {tw tw' : Nat → Nat}
theorem twR_congr (h : twR sm L tw) (hs : ∀ a b, a ∈ L → b ∈ L → (sm tw a b ↔ sm' tw a b)) : twR sm' L tw := by
  intro A n B e
  have hn : n ∈ L := by rw [e]; simp
  have hA : ∀ m ∈ A, m ∈ L := fun m hm => by rw [e]; simp [hm]
  rcases h A n B e with ⟨a1, a2⟩ | ⟨a1, a2, a3⟩
  · exact Or.inl ⟨a1, fun m hm z y => a2 m hm z ((hs m n (hA m hm) hn).mpr y)⟩
  · exact Or.inr ⟨a1, a2, (hs _ n (hA _ a1) hn).mp a3⟩
theorem nd_mid {A B : List Nat} {n : Nat} (hnd : L.Nodup) (e : L = A ++ n :: B) : n ∉ A := by
  rw [e] at hnd
  intro z
  have := (List.nodup_append.mp hnd).2.2 n z n (by simp)
  exact this rfl
theorem twR_fix {A B : List Nat} {n : Nat} (hnd : L.Nodup) (h : twR sm L tw) (e : L = A ++ n :: B) (hf : tw n = n) : ∀ m ∈ A, tw m = m → ¬ sm tw m n := by
  rcases h A n B e with ⟨a1, a2⟩ | ⟨a1, a2, a3⟩
  · exact a2
  · rw [hf] at a1
    exact absurd a1 (nd_mid hnd e)
/-- which node stands for which, is one -/
theorem twR_uniq (hnd : L.Nodup) (hsy : ∀ a b, sm tw a b → sm tw b a) (htr : ∀ a b c, sm tw a b → sm tw b c → sm tw a c) (hlo : ∀ A n B, L = A ++ n :: B → (∀ m ∈ A, tw m = tw' m) → ∀ m ∈ A, (sm tw m n ↔ sm tw' m n)) (h : twR sm L tw) (h' : twR sm L tw') : ∀ n ∈ L, tw n = tw' n := by
  have key : ∀ (B A : List Nat), L = A ++ B → (∀ m ∈ A, tw m = tw' m) → ∀ n ∈ L, tw n = tw' n := by
    intro B
    induction B with
    | nil =>
      intro A e hA n hn
      rw [List.append_nil] at e
      exact hA n (e ▸ hn)
    | cons n B ih =>
      intro A e hA
      have hl := hlo A n B e hA
      have st : tw n = tw' n := by
        rcases h A n B e with ⟨a1, a2⟩ | ⟨a1, a2, a3⟩
        · rcases h' A n B e with ⟨b1, b2⟩ | ⟨b1, b2, b3⟩
          · rw [a1, b1]
          · exact absurd ((hl _ b1).mpr b3) (a2 _ b1 (by rw [hA _ b1]; exact b2))
        · rcases h' A n B e with ⟨b1, b2⟩ | ⟨b1, b2, b3⟩
          · exact absurd ((hl _ a1).mp a3) (b2 _ a1 (by rw [← hA _ a1]; exact a2))
          · have fy : tw (tw' n) = tw' n := by rw [hA _ b1]; exact b2
            have sy : sm tw (tw' n) n := (hl _ b1).mpr b3
            generalize tw n = x at *
            generalize tw' n = y at *
            refine Classical.byContradiction fun ne => ?_
            obtain ⟨A1, A2, eA⟩ := List.append_of_mem b1
            rw [eA] at a1
            rcases List.mem_append.mp a1 with z | z
            · exact twR_fix (A := A1) (n := y) (B := A2 ++ n :: B) hnd h (by rw [e, eA]; simp) fy x z a2 (htr _ _ _ a3 (hsy _ _ sy))
            · rcases List.mem_cons.mp z with z | z
              · exact ne z
              · obtain ⟨A3, A4, eB⟩ := List.append_of_mem z
                exact twR_fix (A := A1 ++ y :: A3) (n := x) (B := A4 ++ n :: B) hnd h (by rw [e, eA, eB]; simp) a2 y (by simp) fy (htr _ _ _ sy (hsy _ _ a3))
      refine ih (A ++ [n]) (by rw [e]; simp) (fun m hm => ?_)
      rcases List.mem_append.mp hm with z | z
      · exact hA m z
      · rw [List.mem_singleton.mp z]; exact st
  exact key L [] rfl (fun m hm => nomatch hm)
end TW
section SG
variable {G : sG} {S T S' T' : Nat → Ty} {tw tw' : Nat → Nat} {L : List Nat} {a b c : Nat}
theorem smG_sy (h : smG G S T tw a b) : smG G S T tw b a := by
  obtain ⟨h1, h2, h3, h4⟩ := h
  refine ⟨h1.symm, by rw [← h1]; exact h2, fun e k hk => (h3 (h1.trans e) k hk).symm, fun e => ?_⟩
  obtain ⟨a1, a2, a3, a4, a5⟩ := h4 (by rw [h1]; exact e)
  exact ⟨a1.symm, a2.symm, a3.symm, a4.symm, a5.symm⟩
theorem smG_tr (h : smG G S T tw a b) (g : smG G S T tw b c) : smG G S T tw a c := by
  obtain ⟨h1, h2, h3, h4⟩ := h
  obtain ⟨g1, g2, g3, g4⟩ := g
  refine ⟨h1.trans g1, h2, fun e k hk => (h3 e k hk).trans (g3 (h1.symm.trans e) k hk), fun e => ?_⟩
  obtain ⟨a1, a2, a3, a4, a5⟩ := h4 e
  obtain ⟨b1, b2, b3, b4, b5⟩ := g4 (by rw [← h1]; exact e)
  exact ⟨a1.trans b1, a2.trans b2, a3.trans b3, a4.trans b4, a5.trans b5⟩
theorem smG_ty (hS : ∀ n ∈ L, sCd G n ≠ 11 → S n = S' n ∧ T n = T' n) (ha : a ∈ L) (hb : b ∈ L) (h : smG G S T tw a b) : smG G S' T' tw a b := by
  obtain ⟨h1, h2, h3, h4⟩ := h
  refine ⟨h1, h2, h3, fun e => ?_⟩
  obtain ⟨a1, a2, a3, a4, a5⟩ := h4 e
  have x := hS a ha e
  have y := hS b hb (by rw [← h1]; exact e)
  exact ⟨a1, a2, a3, by rw [← x.1, ← y.1]; exact a4, by rw [← x.2, ← y.2]; exact a5⟩
theorem omap_c {o : Option Nat} (h : ∀ x, o = some x → tw x = tw' x) : o.map tw = o.map tw' := by
  cases o with
  | none => rfl
  | some x => simp [h x rfl]
theorem smG_tw (ha : ∀ x, (sC1 G a = some x ∨ sC2 G a = some x) → tw x = tw' x) (hb : ∀ x, (sC1 G b = some x ∨ sC2 G b = some x) → tw x = tw' x) : smG G S T tw a b ↔ smG G S T tw' a b := by
  unfold smG
  rw [omap_c (tw := tw) (tw' := tw') (fun x hx => ha x (Or.inl hx)), omap_c (tw := tw) (tw' := tw') (fun x hx => ha x (Or.inr hx)), omap_c (tw := tw) (tw' := tw') (fun x hx => hb x (Or.inl hx)), omap_c (tw := tw) (tw' := tw') (fun x hx => hb x (Or.inr hx))]
theorem cl_in (hcl : df_cl (sC1 G) (sC2 G) L) {A B : List Nat} {n : Nat} (e : L = A ++ n :: B) {m : Nat} (hm : m ∈ A) : ∀ x, (sC1 G m = some x ∨ sC2 G m = some x) → x ∈ A := by
  intro x hx
  obtain ⟨A1, A2, eA⟩ := List.append_of_mem hm
  have := hcl A1 m (A2 ++ n :: B) (by rw [e, eA]; simp) x hx
  rw [eA]; simp [this]
theorem twG_uniq (hnd : L.Nodup) (hcl : df_cl (sC1 G) (sC2 G) L) (h : twR (smG G S T) L tw) (h' : twR (smG G S T) L tw') : ∀ n ∈ L, tw n = tw' n :=
  twR_uniq hnd (fun _ _ => smG_sy) (fun _ _ _ => smG_tr) (fun A n B e hA m hm => smG_tw (fun x hx => hA x (cl_in hcl e hm x hx)) (fun x hx => hA x (hcl A n B e x hx))) h h'
theorem tw_in {sm : (Nat → Nat) → Nat → Nat → Prop} (h : twR sm L tw) {n : Nat} (hn : n ∈ L) : tw n ∈ L ∧ tw (tw n) = tw n := by
  obtain ⟨A, B, e⟩ := List.append_of_mem hn
  rcases h A n B e with ⟨a1, _⟩ | ⟨a1, a2, _⟩
  · rw [a1]; exact ⟨hn, a1⟩
  · exact ⟨by rw [e]; simp [a1], a2⟩
theorem cl_mem (hcl : df_cl (sC1 G) (sC2 G) L) {n : Nat} (hn : n ∈ L) : ∀ x, (sC1 G n = some x ∨ sC2 G n = some x) → x ∈ L := by
  intro x hx
  obtain ⟨A, B, e⟩ := List.append_of_mem hn
  have := hcl A n B e x hx
  rw [e]; simp [this]
theorem mC_tw (hcl : df_cl (sC1 G) (sC2 G) L) (h : ∀ n ∈ L, tw n = tw' n) : mC (sC1 G) L tw = mC (sC1 G) L tw' ∧ mC (sC2 G) L tw = mC (sC2 G) L tw' := by
  constructor <;> funext n <;> by_cases hn : n ∈ L
  · rw [mC_i hn, mC_i hn]; exact omap_c (fun x hx => h x (cl_mem hcl hn x (Or.inl hx)))
  · rw [mC_o hn, mC_o hn]
  · rw [mC_i hn, mC_i hn]; exact omap_c (fun x hx => h x (cl_mem hcl hn x (Or.inr hx)))
  · rw [mC_o hn, mC_o hn]
theorem mC_x {c : Nat → Option Nat} {n x : Nat} (hn : n ∈ L) (hx : mC c L tw n = some x) : ∃ y, c n = some y ∧ x = tw y := by
  rw [mC_i hn] at hx
  obtain ⟨y, h1, h2⟩ := Option.map_eq_some_iff.mp hx
  exact ⟨y, h1, h2.symm⟩
/-- what is come to from what stands for the last lies in L -/
theorem mC_sub {sm : (Nat → Nat) → Nat → Nat → Prop} {last : Nat} {L2 : List Nat} (hcl : df_cl (sC1 G) (sC2 G) L) (h : twR sm L tw) (hl : last ∈ L) (ho : df_out (mC (sC1 G) L tw) (mC (sC2 G) L tw) (tw last) L2) : ∀ x ∈ L2, x ∈ L := by
  refine df_P (P := fun x => x ∈ L) (fun n hn x hx => ?_) (tw_in h hl).1 ho
  rcases hx with z | z
  · obtain ⟨y, h1, rfl⟩ := mC_x hn z
    exact (tw_in h (cl_mem hcl hn y (Or.inl h1))).1
  · obtain ⟨y, h1, rfl⟩ := mC_x hn z
    exact (tw_in h (cl_mem hcl hn y (Or.inr h1))).1
/-- ranks of merged nodes -/
theorem mC_ac {sm : (Nat → Nat) → Nat → Nat → Prop} {N : Nat} {rk : Nat → Nat} (hnd : L.Nodup) (hcl : df_cl (sC1 G) (sC2 G) L) (hac : df_ac (sC1 G) (sC2 G) N rk) (h : twR sm L tw) : df_ac (mC (sC1 G) L tw) (mC (sC2 G) L tw) N (fun n => if n ∈ L then ixF L n else L.length + rk n) := by
  intro n hn x hx
  by_cases hm : n ∈ L
  · have key : ∀ y, (sC1 G n = some y ∨ sC2 G n = some y) → (if tw y ∈ L then ixF L (tw y) else L.length + rk (tw y)) < ixF L n := by
      intro y hy
      obtain ⟨A, B, e⟩ := List.append_of_mem hm
      have hyA := hcl A n B e y hy
      have ht : tw y ∈ A := by
        obtain ⟨A1, A2, eA⟩ := List.append_of_mem hyA
        rcases h A1 y (A2 ++ n :: B) (by rw [e, eA]; simp) with ⟨a1, _⟩ | ⟨a1, _, _⟩
        · rw [a1]; exact hyA
        · rw [eA]; simp [a1]
      have hL : tw y ∈ L := by rw [e]; simp [ht]
      rw [if_pos hL]
      obtain ⟨j, hj, ej⟩ := List.getElem_of_mem ht
      have e1 : L.getD j 0 = tw y := by
        rw [e, List.getD_eq_getElem?_getD, List.getElem?_append_left hj, List.getElem?_eq_getElem hj, ej]; rfl
      have e2 : L.getD A.length 0 = n := by
        rw [e, List.getD_eq_getElem?_getD, List.getElem?_append_right (Nat.le_refl _)]; simp
      have l1 : L.length = A.length + (B.length + 1) := by rw [e]; simp
      have i1 := ixF_of hnd (i := j) (by omega)
      have i2 := ixF_of hnd (i := A.length) (by omega)
      rw [e1] at i1
      rw [e2] at i2
      omega
    simp only [if_pos hm]
    rcases hx with z | z
    · obtain ⟨y, h1, rfl⟩ := mC_x hm z
      exact key y (Or.inl h1)
    · obtain ⟨y, h1, rfl⟩ := mC_x hm z
      exact key y (Or.inr h1)
  · rw [mC_o hm, mC_o hm] at hx
    have := hac n hn x hx
    simp only [if_neg hm]
    by_cases hy : x ∈ L
    · rw [if_pos hy]
      have := (ixF_lt hy).1
      omega
    · rw [if_neg hy]; omega
theorem mC_cN {sm : (Nat → Nat) → Nat → Nat → Prop} {N : Nat} (hcl : df_cl (sC1 G) (sC2 G) L) (hLN : ∀ n ∈ L, n < N) (hcN : df_cN (sC1 G) (sC2 G) N) (h : twR sm L tw) : df_cN (mC (sC1 G) L tw) (mC (sC2 G) L tw) N := by
  intro n hn x hx
  by_cases hm : n ∈ L
  · rcases hx with z | z
    · obtain ⟨y, h1, rfl⟩ := mC_x hm z
      exact hLN _ (tw_in h (cl_mem hcl hm y (Or.inl h1))).1
    · obtain ⟨y, h1, rfl⟩ := mC_x hm z
      exact hLN _ (tw_in h (cl_mem hcl hm y (Or.inr h1))).1
  · rw [mC_o hm, mC_o hm] at hx
    exact hcN n hn x hx
end SG
