/-! ===== say: what holds of a program that is being made ===== -/
theorem df_P {c1 c2 : Nat → Option Nat} {P : Nat → Prop} (hc : ∀ n, P n → ∀ x, (c1 n = some x ∨ c2 n = some x) → P x) {root : Nat} {L : List Nat} (hr : P root) (h : df_out c1 c2 root L) : ∀ x ∈ L, P x := by
  have stp : ∀ q : df_S, (∀ x ∈ q.1 ++ q.2.2, P x) → ∀ x ∈ (df_step c1 c2 q).1 ++ (df_step c1 c2 q).2.2, P x := by
    intro q hq
    obtain ⟨s, m, o⟩ := q
    cases s with
    | nil => exact hq
    | cons n s =>
      have hn : P n := hq n (by simp)
      cases e1 : df_nx m (c1 n) with
      | some y =>
        rw [df_step_1 e1]
        intro x hx
        rcases List.mem_cons.mp hx with rfl | z
        · exact hc n hn _ (Or.inl (df_nx_some e1).1)
        · exact hq x z
      | none =>
        cases e2 : df_nx m (c2 n) with
        | some y =>
          rw [df_step_2 e1 e2]
          intro x hx
          rcases List.mem_cons.mp hx with rfl | z
          · exact hc n hn _ (Or.inr (df_nx_some e2).1)
          · exact hq x z
        | none =>
          rw [df_step_3 e1 e2]
          intro x hx
          refine hq x ?_
          simp only [List.mem_append, List.mem_cons, List.mem_singleton, List.not_mem_nil, or_false] at hx ⊢
          rcases hx with z | z | z
          · exact Or.inl (Or.inr z)
          · exact Or.inr z
          · exact Or.inl (Or.inl z)
  have it : ∀ (j : Nat) (q : df_S), (∀ x ∈ q.1 ++ q.2.2, P x) → ∀ x ∈ (df_it c1 c2 j q).1 ++ (df_it c1 c2 j q).2.2, P x := by
    intro j
    induction j with
    | zero => exact fun q hq => hq
    | succ j ih => exact fun q hq => ih _ (stp q hq)
  obtain ⟨j, m, e⟩ := h
  have := it j (df_0 root) (fun x hx => by
    have : x = root := by simpa [df_0] using hx
    rw [this]; exact hr)
  rw [e] at this
  exact this
theorem df_last {c1 c2 : Nat → Option Nat} {root : Nat} {L : List Nat} (h : df_out c1 c2 root L) : ∃ o, L = o ++ [root] := by
  have stp : ∀ q : df_S, ((∃ s, q.1 = s ++ [root]) ∨ (q.1 = [] ∧ ∃ o, q.2.2 = o ++ [root])) → ((∃ s, (df_step c1 c2 q).1 = s ++ [root]) ∨ ((df_step c1 c2 q).1 = [] ∧ ∃ o, (df_step c1 c2 q).2.2 = o ++ [root])) := by
    intro q hq
    obtain ⟨s, m, o⟩ := q
    cases s with
    | nil => exact hq
    | cons n s =>
      rcases hq with ⟨s', hs⟩ | ⟨z, _⟩
      · have hs : n :: s = s' ++ [root] := hs
        cases e1 : df_nx m (c1 n) with
        | some y =>
          rw [df_step_1 e1]
          exact Or.inl ⟨y :: s', by show y :: n :: s = y :: s' ++ [root]; rw [hs]; rfl⟩
        | none =>
          cases e2 : df_nx m (c2 n) with
          | some y =>
            rw [df_step_2 e1 e2]
            exact Or.inl ⟨y :: s', by show y :: n :: s = y :: s' ++ [root]; rw [hs]; rfl⟩
          | none =>
            rw [df_step_3 e1 e2]
            cases s' with
            | nil =>
              have : n = root ∧ s = [] := by simpa using hs
              exact Or.inr ⟨this.2, o, by show o ++ [n] = o ++ [root]; rw [this.1]⟩
            | cons a s' =>
              have : n = a ∧ s = s' ++ [root] := by simpa using hs
              exact Or.inl ⟨s', this.2⟩
      · cases z
  have it : ∀ (j : Nat) (q : df_S), ((∃ s, q.1 = s ++ [root]) ∨ (q.1 = [] ∧ ∃ o, q.2.2 = o ++ [root])) → ((∃ s, (df_it c1 c2 j q).1 = s ++ [root]) ∨ ((df_it c1 c2 j q).1 = [] ∧ ∃ o, (df_it c1 c2 j q).2.2 = o ++ [root])) := by
    intro j
    induction j with
    | zero => exact fun q hq => hq
    | succ j ih => exact fun q hq => ih _ (stp q hq)
  obtain ⟨j, m, e⟩ := h
  rcases it j (df_0 root) (Or.inl ⟨[], rfl⟩) with z | z
  · rw [e] at z
    obtain ⟨s, hs⟩ := z
    have : ([] : List Nat) = s ++ [root] := hs
    simp at this
  · rw [e] at z
    exact z.2
/-- the nodes that wait -/
def stl (st : List (Option Nat)) : List Nat := st.filterMap id
theorem stl_n (r : List (Option Nat)) : stl (none :: r) = stl r := rfl
theorem stl_s (h : Nat) (r : List (Option Nat)) : stl (some h :: r) = h :: stl r := rfl
def sND (t : List Nat) (G : sG) (q : List Nat) (rk : Nat → Nat) (M n : Nat) : Prop :=
  sCd G n ≤ 12 ∧ (∀ x, (sC1 G n = some x ∨ sC2 G n = some x) → x < sCt G ∧ x ∉ q ∧ (n ∉ q → rk x < rk n)) ∧
  (n ∉ q → rk n < M ∧ (sCd G n ≤ 6 ↔ (sC1 G n).isSome = true) ∧ (sCd G n ≤ 2 ↔ (sC2 G n).isSome = true)) ∧
  (n ∈ q → sCd G n ≤ 6 ∧ sC2 G n = none ∧ (3 ≤ sCd G n → sC1 G n = none)) ∧
  (sCd G n = 12 → sNu G n ≤ 167) ∧ (sCd G n ≠ 10 → sLn G n = 0) ∧ ((sCd G n ≤ 9 ∨ sCd G n = 11) → sNu G n = 0) ∧ (sCd G n = 11 → ∀ k, k < 8 → sHw G n k < 4294967296) ∧
  (sCd G n = 10 → sNu G n + sLn G n ≤ t.length ∧ ∀ i, i < sLn G n → t.getD (sNu G n + i) 0 = 48 ∨ t.getD (sNu G n + i) 0 = 49)
def sOK (t : List Nat) (G : sG) (st : List (Option Nat)) (rk : Nat → Nat) (M : Nat) : Prop := sCt G ≤ 2000 ∧ (stl st).Nodup ∧ (∀ n ∈ stl st, n < sCt G) ∧ ∀ n, n < sCt G → sND t G (stl st) rk M n
section PR
variable {t : List Nat} {G G' : sG} {st r : List (Option Nat)} {rk rk' : Nat → Nat} {M M' n h c : Nat} {q q' : List Nat}
theorem sND_mv (hd : sND t G q rk M n) (hn : n < sCt G) (e1 : sCd G' n = sCd G n) (e2 : sC1 G' n = sC1 G n) (e3 : sC2 G' n = sC2 G n) (e4 : sNu G' n = sNu G n) (e5 : sLn G' n = sLn G n) (e6 : sHw G' n = sHw G n) (hN : sCt G ≤ sCt G') (hq : n ∈ q' ↔ n ∈ q) (hx : ∀ x, x < sCt G → x ∉ q → x ∉ q') (hr : ∀ x, x < sCt G → x ∉ q → rk' x = rk x) (hM : M ≤ M') : sND t G' q' rk' M' n := by
  obtain ⟨a1, a2, a3, a4, a5, a6, a7, a8, a9⟩ := hd
  unfold sND
  rw [e1, e2, e3, e4, e5, e6]
  refine ⟨a1, fun x hxx => ?_, fun z => ?_, fun z => a4 (hq.mp z), a5, a6, a7, a8, a9⟩
  · obtain ⟨b1, b2, b3⟩ := a2 x hxx
    refine ⟨by omega, hx x b1 b2, fun z => ?_⟩
    have z' : n ∉ q := fun y => z (hq.mpr y)
    rw [hr x b1 b2, hr n hn z']
    exact b3 z'
  · have z' : n ∉ q := fun y => z (hq.mpr y)
    obtain ⟨b1, b2, b3⟩ := a3 z'
    rw [hr n hn z']
    exact ⟨by omega, b2, b3⟩
theorem sOK_push (hd : sOK t G st rk M) (hN : sCt G < 2000) (hc : c ≤ 6) : sOK t (sAdd G c 0 0 (fun _ => 0)) (some (sCt G) :: st) rk M := by
  obtain ⟨a1, a2, a3, a4⟩ := hd
  have hnq : sCt G ∉ stl st := fun z => absurd (a3 _ z) (Nat.lt_irrefl _)
  refine ⟨hN, List.nodup_cons.mpr ⟨hnq, a2⟩, fun n hn => ?_, fun n hn => ?_⟩
  · rcases List.mem_cons.mp hn with rfl | z
    · exact Nat.lt_succ_self _
    · exact Nat.lt_succ_of_lt (a3 n z)
  · have hn : n < sCt G + 1 := hn
    by_cases e : n = sCt G
    · subst e
      have m0 : sCt G ∈ stl (some (sCt G) :: st) := List.mem_cons_self
      have d1 : sCd (sAdd G c 0 0 (fun _ => 0)) (sCt G) = c := sUp_s _ _ _
      have d2 : sC1 (sAdd G c 0 0 (fun _ => 0)) (sCt G) = none := sUp_s _ _ _
      have d3 : sC2 (sAdd G c 0 0 (fun _ => 0)) (sCt G) = none := sUp_s _ _ _
      have d4 : sNu (sAdd G c 0 0 (fun _ => 0)) (sCt G) = 0 := sUp_s _ _ _
      have d5 : sLn (sAdd G c 0 0 (fun _ => 0)) (sCt G) = 0 := sUp_s _ _ _
      unfold sND
      rw [d1, d2, d3, d4, d5]
      exact ⟨by omega, fun x z => (by rcases z with z | z <;> cases z), fun z => absurd m0 z, fun _ => ⟨hc, rfl, fun _ => rfl⟩, fun z => by omega, fun _ => rfl, fun _ => rfl, fun z => by omega, fun z => by omega⟩
    · refine sND_mv (a4 n (by omega)) (by omega) (sUp_o _ _ e) (sUp_o _ _ e) (sUp_o _ _ e) (sUp_o _ _ e) (sUp_o _ _ e) (sUp_o _ _ e) (Nat.le_succ _) ⟨fun z => ?_, fun z => List.mem_cons_of_mem _ z⟩ (fun x h1 h2 z => ?_) (fun _ _ _ => rfl) (Nat.le_refl _)
      · rcases List.mem_cons.mp z with z | z
        · exact absurd z e
        · exact z
      · rcases List.mem_cons.mp z with z | z
        · omega
        · exact h2 z
theorem sOK_leaf {nu ln : Nat} {hw : Nat → Nat} (hd : sOK t G st rk M) (hN : sCt G < 2000) (hc : 7 ≤ c) (hc2 : c ≤ 12) (h12 : c = 12 → nu ≤ 167) (hln : c ≠ 10 → ln = 0) (hnu : (c ≤ 9 ∨ c = 11) → nu = 0) (hhw : c = 11 → ∀ k, k < 8 → hw k < 4294967296) (hwt : c = 10 → nu + ln ≤ t.length ∧ ∀ i, i < ln → t.getD (nu + i) 0 = 48 ∨ t.getD (nu + i) 0 = 49) : sOK t (sAdd G c nu ln hw) st (sUp rk (sCt G) M) (M + 1) := by
  obtain ⟨a1, a2, a3, a4⟩ := hd
  have hnq : sCt G ∉ stl st := fun z => absurd (a3 _ z) (Nat.lt_irrefl _)
  refine ⟨hN, a2, fun n hn => Nat.lt_succ_of_lt (a3 n hn), fun n hn => ?_⟩
  have hn : n < sCt G + 1 := hn
  by_cases e : n = sCt G
  · subst e
    have d1 : sCd (sAdd G c nu ln hw) (sCt G) = c := sUp_s _ _ _
    have d2 : sC1 (sAdd G c nu ln hw) (sCt G) = none := sUp_s _ _ _
    have d3 : sC2 (sAdd G c nu ln hw) (sCt G) = none := sUp_s _ _ _
    have d4 : sNu (sAdd G c nu ln hw) (sCt G) = nu := sUp_s _ _ _
    have d5 : sLn (sAdd G c nu ln hw) (sCt G) = ln := sUp_s _ _ _
    have d6 : sHw (sAdd G c nu ln hw) (sCt G) = hw := sUp_s _ _ _
    unfold sND
    rw [d1, d2, d3, d4, d5, d6, sUp_s]
    exact ⟨hc2, fun x z => (by rcases z with z | z <;> cases z), fun _ => ⟨Nat.lt_succ_self _, ⟨fun z => by omega, fun z => by cases z⟩, ⟨fun z => by omega, fun z => by cases z⟩⟩, fun z => absurd z hnq, h12, hln, hnu, hhw, hwt⟩
  · exact sND_mv (a4 n (by omega)) (by omega) (sUp_o _ _ e) (sUp_o _ _ e) (sUp_o _ _ e) (sUp_o _ _ e) (sUp_o _ _ e) (sUp_o _ _ e) (Nat.le_succ _) Iff.rfl (fun _ _ z => z) (fun x h1 _ => sUp_o _ _ (by omega)) (Nat.le_succ _)
theorem sOK_set1 (hd : sOK t G (some h :: r) rk M) (hc : sCd G h ≤ 2) (hn : n < sCt G) (hnq : n ∉ stl (some h :: r)) : sOK t (sSet1 G h n) (some h :: r) rk M := by
  obtain ⟨a1, a2, a3, a4⟩ := hd
  refine ⟨a1, a2, a3, fun m hm => ?_⟩
  have hm : m < sCt G := hm
  by_cases e : m = h
  · subst e
    obtain ⟨b1, b2, b3, b4, b5, b6, b7, b8, b9⟩ := a4 m hm
    have m0 : m ∈ stl (some m :: r) := List.mem_cons_self
    have d2 : sC1 (sSet1 G m n) m = some n := sUp_s _ _ _
    have d3 : sC2 (sSet1 G m n) m = none := (b4 m0).2.1
    refine ⟨b1, fun x z => ?_, fun z => absurd m0 z, fun _ => ⟨(b4 m0).1, d3, fun z => ?_⟩, b5, b6, b7, b8, b9⟩
    · rw [d2, d3] at z
      rcases z with z | z
      · cases z
        exact ⟨hn, hnq, fun z => absurd m0 z⟩
      · cases z
    · have z : 3 ≤ sCd G m := z
      omega
  · exact sND_mv (G' := sSet1 G h n) (a4 m hm) hm rfl (sUp_o _ _ e) rfl rfl rfl rfl (Nat.le_refl _) Iff.rfl (fun _ _ z => z) (fun _ _ _ => rfl) (Nat.le_refl _)
theorem sOK_pop1 (hd : sOK t G (some h :: r) rk M) (hc : 3 ≤ sCd G h) (hn : n < sCt G) (hnq : n ∉ stl (some h :: r)) : sOK t (sSet1 G h n) r (sUp rk h M) (M + 1) ∧ h < sCt G ∧ h ∉ stl r := by
  obtain ⟨a1, a2, a3, a4⟩ := hd
  rw [stl_s] at a2 hnq
  obtain ⟨c1, c2⟩ := List.nodup_cons.mp a2
  have hh : h < sCt G := a3 h List.mem_cons_self
  have hne : n ≠ h := fun z => hnq (by rw [z]; exact List.mem_cons_self)
  refine ⟨⟨a1, c2, fun m hm => a3 m (List.mem_cons_of_mem _ hm), fun m hm => ?_⟩, hh, c1⟩
  have hm : m < sCt G := hm
  by_cases e : m = h
  · subst e
    obtain ⟨b1, b2, b3, b4, b5, b6, b7, b8, b9⟩ := a4 m hm
    have m0 : m ∈ stl (some m :: r) := List.mem_cons_self
    have d2 : sC1 (sSet1 G m n) m = some n := sUp_s _ _ _
    have d3 : sC2 (sSet1 G m n) m = none := (b4 m0).2.1
    have nM : rk n < M := ((a4 n hn).2.2.1 hnq).1
    refine ⟨b1, fun x z => ?_, fun _ => ⟨by rw [sUp_s]; exact Nat.lt_succ_self _, ⟨fun _ => by rw [d2]; rfl, fun _ => (b4 m0).1⟩, ⟨fun z => ?_, fun z => (by rw [d3] at z; cases z)⟩⟩, fun z => absurd z c1, b5, b6, b7, b8, b9⟩
    · rw [d2, d3] at z
      rcases z with z | z
      · cases z
        exact ⟨hn, fun y => hnq (List.mem_cons_of_mem _ y), fun _ => by rw [sUp_s, sUp_o _ _ hne]; exact nM⟩
      · cases z
    · have z : sCd G m ≤ 2 := z
      omega
  · exact sND_mv (G' := sSet1 G h n) (a4 m hm) hm rfl (sUp_o _ _ e) rfl rfl rfl rfl (Nat.le_refl _) ⟨fun z => List.mem_cons_of_mem _ z, fun z => by rcases List.mem_cons.mp z with y | y; exact absurd y e; exact y⟩ (fun x _ h2 z => h2 (List.mem_cons_of_mem _ z)) (fun x _ h2 => sUp_o _ _ (fun z => h2 (by rw [z]; exact List.mem_cons_self))) (Nat.le_succ _)
theorem sOK_pop2 (hd : sOK t G (some h :: r) rk M) (hc : (sC1 G h).isSome = true) (hn : n < sCt G) (hnq : n ∉ stl (some h :: r)) : sOK t (sSet2 G h n) r (sUp rk h M) (M + 1) ∧ h < sCt G ∧ h ∉ stl r := by
  obtain ⟨a1, a2, a3, a4⟩ := hd
  rw [stl_s] at a2 hnq
  obtain ⟨c1, c2⟩ := List.nodup_cons.mp a2
  have hh : h < sCt G := a3 h List.mem_cons_self
  have hne : n ≠ h := fun z => hnq (by rw [z]; exact List.mem_cons_self)
  refine ⟨⟨a1, c2, fun m hm => a3 m (List.mem_cons_of_mem _ hm), fun m hm => ?_⟩, hh, c1⟩
  have hm : m < sCt G := hm
  by_cases e : m = h
  · subst e
    obtain ⟨b1, b2, b3, b4, b5, b6, b7, b8, b9⟩ := a4 m hm
    have m0 : m ∈ stl (some m :: r) := List.mem_cons_self
    have d3 : sC2 (sSet2 G m n) m = some n := sUp_s _ _ _
    have nM : ∀ x, x < sCt G → x ∉ m :: stl r → sUp rk m M x < sUp rk m M m := fun x h1 h2 => by
      rw [sUp_s, sUp_o _ _ (fun z => h2 (by rw [z]; exact List.mem_cons_self))]
      exact ((a4 x h1).2.2.1 h2).1
    have c2' : sCd G m ≤ 2 := by
      by_cases z : 3 ≤ sCd G m
      · rw [(b4 m0).2.2 z] at hc; cases hc
      · omega
    refine ⟨b1, fun x z => ?_, fun _ => ⟨by rw [sUp_s]; exact Nat.lt_succ_self _, ⟨fun _ => hc, fun _ => (b4 m0).1⟩, ⟨fun _ => by rw [d3]; rfl, fun _ => c2'⟩⟩, fun z => absurd z c1, b5, b6, b7, b8, b9⟩
    rw [d3] at z
    rcases z with z | z
    · obtain ⟨g1, g2, _⟩ := b2 x (Or.inl z)
      exact ⟨g1, fun y => g2 (List.mem_cons_of_mem _ y), fun _ => nM x g1 g2⟩
    · cases z
      exact ⟨hn, fun y => hnq (List.mem_cons_of_mem _ y), fun _ => nM n hn hnq⟩
  · exact sND_mv (G' := sSet2 G h n) (a4 m hm) hm rfl rfl (sUp_o _ _ e) rfl rfl rfl (Nat.le_refl _) ⟨fun z => List.mem_cons_of_mem _ z, fun z => by rcases List.mem_cons.mp z with y | y; exact absurd y e; exact y⟩ (fun x _ h2 z => h2 (List.mem_cons_of_mem _ z)) (fun x _ h2 => sUp_o _ _ (fun z => h2 (by rw [z]; exact List.mem_cons_self))) (Nat.le_succ _)
/-- the program's nodes as a walk needs them -/
theorem sOK_cN (hd : sOK t G st rk M) : df_cN (sC1 G) (sC2 G) (sCt G) := fun n hn x hx => ((hd.2.2.2 n hn).2.1 x hx).1
theorem sOK_ac (hd : sOK t G st rk M) : df_ac (sC1 G) (sC2 G) (sCt G) (fun n => if n ∈ stl st then M else rk n) := by
  intro n hn x hx
  obtain ⟨b1, b2, b3, _⟩ := hd.2.2.2 n hn
  obtain ⟨g1, g2, g3⟩ := b2 x hx
  have hxM := ((hd.2.2.2 x g1).2.2.1 g2).1
  simp only [if_neg g2]
  split
  · exact hxM
  · rename_i z
    exact g3 z
theorem sOK_L {L : List Nat} {root : Nat} (hd : sOK t G st rk M) (hr : root < sCt G) (hq : root ∉ stl st) (ho : df_out (sC1 G) (sC2 G) root L) : L.Nodup ∧ (∀ x ∈ L, x < sCt G ∧ x ∉ stl st) ∧ df_cl (sC1 G) (sC2 G) L ∧ ∃ o, L = o ++ [root] := by
  obtain ⟨h1, h2, h3⟩ := df_out_cl (sOK_cN hd) (sOK_ac hd) hr ho
  exact ⟨h1, df_P (P := fun x => x < sCt G ∧ x ∉ stl st) (fun n hn x hx => by
    obtain ⟨g1, g2, _⟩ := (hd.2.2.2 n hn.1).2.1 x hx
    exact ⟨g1, g2⟩) ⟨hr, hq⟩ ho, h3, df_last ho⟩
end PR
