/-! ===== finding trees with a stack: what both programs keep ===== -/
/-- a stack of numbers, the topmost first -/
def skA (h : xm_H) (a : Nat) : List Nat → Prop
  | [] => True
  | t :: q => h.1 a q.length = nI t ∧ skA h a q
theorem skA_o {h h' : xm_H} {a : Nat} : ∀ {q : List Nat}, skA h a q → (∀ j, j < q.length → h'.1 a j = h.1 a j) → skA h' a q
  | [], _, _ => trivial
  | t :: q, hs, he => ⟨by rw [he _ (by simp)]; exact hs.1, skA_o hs.2 (fun j hj => he j (by simp; omega))⟩
theorem skA_push {h : xm_H} {a u : Nat} {q : List Nat} (hs : skA h a q) : skA (xm_si h a q.length (nI u)) a (u :: q) :=
  ⟨by rw [xs_same, upd_s], skA_o hs (fun j hj => by rw [xs_same, upd_o (by omega)])⟩
theorem skA_si {h : xm_H} {a b j : Nat} {v : Int32} {q : List Nat} (hs : skA h a q) (hab : a ≠ b) : skA (xm_si h b j v) a q := skA_o hs (fun i _ => by rw [xq_so hab])
theorem skA_fr {S : List Nat} {T : List (Nat × Nat)} {h h' : xm_H} {a : Nat} {q : List Nat} (hs : skA h a q) (hf : Fr S T h h') (ha : a ∉ S) : skA h' a q := skA_o hs (fun i _ => by rw [hf.1 _ ha])
/-- terms that wait -/
def rs_q (c : Nat) (k l r rt : Nat → Nat) (fd : Nat → Option Ty) (q : List Nat) : Prop := q.Nodup ∧ (∀ u ∈ q, u < c ∧ rt u = u) ∧ rs_ch k l r rt q ∧ ∀ u ∈ q.tail, fd u = none
/-- the row of what was found -/
def rs_F (b c cn : Nat) (tr : Nat → Ty) (fd : Nat → Option Ty) (q : List Nat) (fa : Nat → Int32) : Prop := ∀ t, t < c → (∀ a, fd t = some a → ∃ i, b ≤ i ∧ i < cn ∧ fa t = nI i ∧ tr i = a) ∧ (fd t = none → (t ∉ q → fa t = -1) ∧ (t ∈ q.tail → fa t = -2) ∧ (t ∈ q → fa t = -1 ∨ fa t = -2))
theorem nI_ne1 {i : Nat} (hi : i < 2147483648) : nI i ≠ -1 := by
  intro e
  have h := nI_ltz hi
  rw [e] at h
  exact absurd (show (-1 : Int32) < 0 by decide) (by rw [h]; exact id)
theorem nI_ne2 {i : Nat} (hi : i < 2147483648) : nI i ≠ -2 := by
  intro e
  have h := nI_ltz hi
  rw [e] at h
  exact absurd (show (-2 : Int32) < 0 by decide) (by rw [h]; exact id)
section RS
variable {b c cn cn' : Nat} {k l r rt : Nat → Nat} {tr tr' : Nat → Ty} {fd : Nat → Option Ty} {q : List Nat} {fa : Nat → Int32} {t u i : Nat} {a : Ty}
theorem rs_F_pop (h : rs_F b c cn tr fd (t :: q) fa) (hf : fd t ≠ none) : rs_F b c cn tr fd q fa := by
  intro s hs
  obtain ⟨h1, h2⟩ := h s hs
  refine ⟨h1, fun e => ?_⟩
  obtain ⟨g1, g2, g3⟩ := h2 e
  have hst : s ≠ t := fun z => hf (by rw [← z]; exact e)
  refine ⟨fun z => g1 (fun y => by rcases List.mem_cons.mp y with y | y; exact hst y; exact z y), fun z => g2 (List.mem_of_mem_tail z), fun z => Or.inr (g2 z)⟩
theorem rs_q_pop (h : rs_q c k l r rt fd (t :: q)) : rs_q c k l r rt fd q := by
  obtain ⟨h1, h2, h3, h4⟩ := h
  exact ⟨(List.nodup_cons.mp h1).2, fun u hu => h2 u (List.mem_cons_of_mem _ hu), h3.2, fun u hu => h4 u (List.mem_of_mem_tail hu)⟩
theorem rs_F_set (h : rs_F b c cn tr fd (t :: q) fa) (hn : fd t = none) (hb : b ≤ i) (hi : i < cn') (hcc : cn ≤ cn') (htr : ∀ j, j < cn → tr' j = tr j) (ha : tr' i = a) : rs_F b c cn' tr' (rs_up fd t a) (t :: q) (upd fa t (nI i)) := by
  intro s hs
  by_cases e : s = t
  · subst e
    refine ⟨fun a' ha' => ?_, fun z => ?_⟩
    · rw [rs_up_same] at ha'
      cases ha'
      exact ⟨i, hb, hi, by rw [upd_s], ha⟩
    · rw [rs_up_same] at z; cases z
  · rw [rs_up_other e, upd_o e]
    obtain ⟨h1, h2⟩ := h s hs
    refine ⟨fun a' ha' => ?_, h2⟩
    obtain ⟨j, j1, j2, j3, j4⟩ := h1 a' ha'
    exact ⟨j, j1, by omega, j3, by rw [htr j j2]; exact j4⟩
theorem rs_F_2 (h : rs_F b c cn tr fd (t :: q) fa) (hn : fd t = none) : rs_F b c cn tr fd (t :: q) (upd fa t (-2)) := by
  intro s hs
  by_cases e : s = t
  · subst e
    refine ⟨fun a' ha' => ?_, fun z => ⟨fun y => absurd (List.mem_cons_self ..) y, fun _ => by rw [upd_s], fun _ => Or.inr (by rw [upd_s])⟩⟩
    rw [hn] at ha'; cases ha'
  · rw [upd_o e]; exact h s hs
theorem rs_q_up (h : rs_q c k l r rt fd (t :: q)) : rs_q c k l r rt (rs_up fd t a) (t :: q) := by
  obtain ⟨h1, h2, h3, h4⟩ := h
  refine ⟨h1, h2, h3, fun u hu => ?_⟩
  have hne : u ≠ t := fun z => (List.nodup_cons.mp h1).1 (by rw [← z]; exact hu)
  rw [rs_up_other hne]
  exact h4 u hu
theorem rs_F_push (h : rs_F b c cn tr fd (t :: q) fa) (ht : t < c) (h2t : fa t = -2) (hu : fd u = none) (hfu : fa u ≠ -2) (huc : u < c) : u ∉ t :: q ∧ rs_F b c cn tr fd (u :: t :: q) fa := by
  have hu1 : u ∉ t :: q := by
    intro z
    rcases List.mem_cons.mp z with z | z
    · rw [z] at hfu; exact hfu h2t
    · exact hfu (((h u huc).2 hu).2.1 z)
  refine ⟨hu1, fun s hs => ?_⟩
  obtain ⟨g1, g2⟩ := h s hs
  refine ⟨g1, fun e => ?_⟩
  obtain ⟨p1, p2, p3⟩ := g2 e
  refine ⟨fun z => p1 (fun y => z (List.mem_cons_of_mem _ y)), fun z => ?_, fun z => ?_⟩
  · rcases List.mem_cons.mp z with y | y
    · rw [y]; exact h2t
    · exact p2 y
  · rcases List.mem_cons.mp z with y | y
    · rw [y]; exact Or.inl (((h u huc).2 hu).1 hu1)
    · exact p3 y
theorem rs_q_push (h : rs_q c k l r rt fd (t :: q)) (hn : fd t = none) (hk : 2 ≤ k t) (hu : u = rt (l t) ∨ u = rt (r t)) (hu1 : u ∉ t :: q) (huc : u < c) (hur : rt u = u) : rs_q c k l r rt fd (u :: t :: q) := by
  obtain ⟨h1, h2, h3, h4⟩ := h
  refine ⟨List.nodup_cons.mpr ⟨hu1, h1⟩, fun v hv => ?_, ⟨fun p hp => ?_, h3⟩, fun v hv => ?_⟩
  · rcases List.mem_cons.mp hv with rfl | hv
    · exact ⟨huc, hur⟩
    · exact h2 v hv
  · simp only [List.head?_cons, Option.some.injEq] at hp
    subst hp
    exact ⟨hk, hu⟩
  · rcases List.mem_cons.mp hv with rfl | hv
    · exact hn
    · exact h4 v hv
theorem rs_F_cyc (h : rs_F b c cn tr fd q fa) (hcn : cn < 2147483648) (huc : u < c) (h2 : fa u = -2) : u ∈ q := by
  refine Classical.byContradiction fun hu => ?_
  obtain ⟨g1, g2⟩ := h u huc
  cases hf : fd u with
  | none =>
    have := (g2 hf).1 hu
    rw [h2] at this
    exact absurd this (by decide)
  | some a =>
    obtain ⟨i, i1, i2, i3, i4⟩ := g1 a hf
    rw [h2] at i3
    exact absurd i3.symm (nI_ne2 (by omega))
end RS
theorem rs_q_len {c : Nat} {k l r rt : Nat → Nat} {fd : Nat → Option Ty} {q : List Nat} (h : rs_q c k l r rt fd q) : q.length ≤ c := nd_len c q h.1 (fun u hu => (h.2.1 u hu).1)
/-- how many are neither found nor wait -/
def rs_m (fd : Nat → Option Ty) (q : List Nat) (c : Nat) : Nat := cn (fun t => (fd t).isNone && !(q.contains t)) c
def rs_b (fd : Nat → Option Ty) : List Nat → Nat
  | [] => 0
  | t :: _ => if (fd t).isSome then 1 else 0
theorem rs_m_pop {c t : Nat} {q : List Nat} {fd : Nat → Option Ty} (hf : fd t ≠ none) : rs_m fd q c = rs_m fd (t :: q) c := by
  refine cn_congr (fun s _ => ?_)
  by_cases e : s = t
  · subst e
    cases h : fd s with
    | none => exact absurd h hf
    | some a => rfl
  · simp [e]
theorem rs_m_set {c t : Nat} {q : List Nat} {fd : Nat → Option Ty} {a : Ty} : rs_m (rs_up fd t a) (t :: q) c = rs_m fd (t :: q) c := by
  refine cn_congr (fun s _ => ?_)
  by_cases e : s = t
  · subst e
    simp
  · rw [rs_up_other e]
theorem rs_m_push {c u : Nat} {q : List Nat} {fd : Nat → Option Ty} (hn : fd u = none) (hu : u ∉ q) (huc : u < c) : rs_m fd (u :: q) c + 1 = rs_m fd q c := by
  refine cn_del (a := u) ?_ ?_ (fun s hs => ?_) huc
  · simp [hn, hu]
  · simp
  · simp [hs]
theorem rs_m_le (fd : Nat → Option Ty) (q : List Nat) (c : Nat) : rs_m fd q c ≤ c := cn_le _ c
def rvX (cn cn' : Nat) (tr tr' : Nat → Ty) (fd fd' : Nat → Option Ty) : Prop := cn ≤ cn' ∧ (∀ j, j < cn → tr' j = tr j) ∧ ∀ t a, fd t = some a → fd' t = some a
theorem rvX_rf {cn : Nat} {tr : Nat → Ty} {fd : Nat → Option Ty} : rvX cn cn tr tr fd fd := ⟨Nat.le_refl _, fun _ _ => rfl, fun _ _ h => h⟩
theorem rvX_tr {cn cn' cn'' : Nat} {tr tr' tr'' : Nat → Ty} {fd fd' fd'' : Nat → Option Ty} (a : rvX cn cn' tr tr' fd fd') (b : rvX cn' cn'' tr' tr'' fd' fd'') : rvX cn cn'' tr tr'' fd fd'' :=
  ⟨Nat.le_trans a.1 b.1, fun j hj => by rw [b.2.1 j (Nat.lt_of_lt_of_le hj a.1), a.2.1 j hj], fun t x h => b.2.2 t x (a.2.2 t x h)⟩
theorem rvX_up {cn cn' t : Nat} {tr tr' : Nat → Ty} {fd : Nat → Option Ty} {a : Ty} (h1 : cn ≤ cn') (h2 : ∀ j, j < cn → tr' j = tr j) (hn : fd t = none) : rvX cn cn' tr tr' fd (rs_up fd t a) := ⟨h1, h2, fun s x h => rs_up_of hn h⟩
