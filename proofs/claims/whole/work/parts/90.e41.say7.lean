/-! ===== say: what a turn keeps ===== -/
section PR
variable {t : List Nat} {NL : List (List Nat × Nat)} {G : sG} {st : List (Option Nat)} {rk : Nat → Nat} {M n p k i : Nat} {L : List Nat}
theorem sCp_n (hi : i < k) : sCd (sCp G L k) (sCt G + i) = sCd G (L.getD i 0) ∧ sC1 (sCp G L k) (sCt G + i) = (sC1 G (L.getD i 0)).map (fun y => sCt G + ixF L y) ∧ sC2 (sCp G L k) (sCt G + i) = (sC2 G (L.getD i 0)).map (fun y => sCt G + ixF L y) ∧ sNu (sCp G L k) (sCt G + i) = sNu G (L.getD i 0) ∧ sLn (sCp G L k) (sCt G + i) = sLn G (L.getD i 0) ∧ sHw (sCp G L k) (sCt G + i) = sHw G (L.getD i 0) := by
  have hc : sCt G ≤ sCt G + i ∧ sCt G + i < sCt G + k := by omega
  have e : sCt G + i - sCt G = i := by omega
  refine ⟨?_, ?_, ?_, ?_, ?_, ?_⟩ <;> · show (if _ then _ else _) = _; rw [if_pos hc, e]
theorem sCp_o {x : Nat} (hx : x < sCt G ∨ sCt G + k ≤ x) : sCd (sCp G L k) x = sCd G x ∧ sC1 (sCp G L k) x = sC1 G x ∧ sC2 (sCp G L k) x = sC2 G x ∧ sNu (sCp G L k) x = sNu G x ∧ sLn (sCp G L k) x = sLn G x ∧ sHw (sCp G L k) x = sHw G x := by
  have hc : ¬ (sCt G ≤ x ∧ x < sCt G + k) := by omega
  refine ⟨?_, ?_, ?_, ?_, ?_, ?_⟩ <;> · show (if _ then _ else _) = _; rw [if_neg hc]
theorem gdm {x : Nat} (hx : x < L.length) : L.getD x 0 ∈ L := by
  rw [List.getD_eq_getElem?_getD, List.getElem?_eq_getElem hx]
  exact List.getElem_mem hx
/-- a child stands ahead -/
theorem cl_ix (hnd : L.Nodup) (hcl : df_cl (sC1 G) (sC2 G) L) (hi : i < L.length) {y : Nat} (hy : sC1 G (L.getD i 0) = some y ∨ sC2 G (L.getD i 0) = some y) : ixF L y < i ∧ L.getD (ixF L y) 0 = y := by
  have e : L = L.take i ++ L.getD i 0 :: L.drop (i + 1) := by
    conv => lhs; rw [← List.take_append_drop i L, drop_gd (x := 0) hi]
  have hm := hcl _ _ _ e y hy
  obtain ⟨j, hj, rfl⟩ := List.getElem_of_mem hm
  have hj2 : j < i := by rw [List.length_take] at hj; omega
  have ej : (L.take i)[j] = L.getD j 0 := by
    rw [List.getElem_take, List.getD_eq_getElem?_getD, List.getElem?_eq_getElem (by omega)]
    rfl
  rw [ej, ixF_of hnd (by omega)]
  exact ⟨hj2, rfl⟩
theorem df_ex {c1 c2 : Nat → Option Nat} {N root : Nat} (hN : df_cN c1 c2 N) (hr : root < N) : ∃ L, df_out c1 c2 root L := by
  have key : ∀ (m : Nat) (q : df_S), df_ok c1 c2 N q → 2 * (N - (q.1.length + q.2.2.length)) + q.1.length ≤ m → ∃ j mm L, df_it c1 c2 j q = ([], mm, L) := by
    intro m
    induction m with
    | zero =>
      intro q hq hm
      obtain ⟨s, mm, o⟩ := q
      have hm : 2 * (N - (s.length + o.length)) + s.length ≤ 0 := hm
      have : s = [] := List.length_eq_zero_iff.mp (by omega)
      subst this
      exact ⟨0, mm, o, rfl⟩
    | succ m ih =>
      intro q hq hm
      obtain ⟨s, mm, o⟩ := q
      cases s with
      | nil => exact ⟨0, mm, o, rfl⟩
      | cons n s =>
        have hk := df_ok_step hN hq
        have hl := df_ok_len hk
        simp only [List.length_cons] at hm
        have hm2 : 2 * (N - ((df_step c1 c2 (n :: s, mm, o)).1.length + (df_step c1 c2 (n :: s, mm, o)).2.2.length)) + (df_step c1 c2 (n :: s, mm, o)).1.length ≤ m := by
          cases e1 : df_nx mm (c1 n) with
          | some y =>
            rw [df_step_1 e1] at hl ⊢
            simp only [List.length_cons] at hl ⊢
            omega
          | none =>
            cases e2 : df_nx mm (c2 n) with
            | some y =>
              rw [df_step_2 e1 e2] at hl ⊢
              simp only [List.length_cons] at hl ⊢
              omega
            | none =>
              rw [df_step_3 e1 e2] at hl ⊢
              simp only [List.length_append, List.length_cons, List.length_nil] at hl ⊢
              omega
        obtain ⟨j, m2, L, e⟩ := ih _ hk hm2
        exact ⟨j + 1, m2, L, e⟩
  obtain ⟨j, mm, L, e⟩ := key _ (df_0 root) (df_ok_0 hr) (Nat.le_refl _)
  exact ⟨L, j, mm, e⟩
theorem sOK_copy (hd : sOK t G st rk M) (hnd : L.Nodup) (hL : ∀ x ∈ L, x < sCt G ∧ x ∉ stl st) (hcl : df_cl (sC1 G) (sC2 G) L) (hN : sCt G + L.length ≤ 2000) : sOK t (sCp G L L.length) st (fun x => if sCt G ≤ x then M + (x - sCt G) else rk x) (M + L.length) := by
  obtain ⟨a1, a2, a3, a4⟩ := hd
  refine ⟨hN, a2, fun n hn => Nat.lt_of_lt_of_le (a3 n hn) (Nat.le_add_right _ _), fun n hn => ?_⟩
  have hn : n < sCt G + L.length := hn
  by_cases e : n < sCt G
  · obtain ⟨o1, o2, o3, o4, o5, o6⟩ := sCp_o (G := G) (L := L) (k := L.length) (Or.inl e)
    exact sND_mv (a4 n e) e o1 o2 o3 o4 o5 o6 (Nat.le_add_right _ _) Iff.rfl (fun _ _ z => z) (fun x hx _ => if_neg (by omega)) (Nat.le_add_right _ _)
  · obtain ⟨i, rfl⟩ : ∃ i, n = sCt G + i := ⟨n - sCt G, by omega⟩
    have hi : i < L.length := by omega
    obtain ⟨o1, o2, o3, o4, o5, o6⟩ := sCp_n (G := G) (L := L) (k := L.length) hi
    obtain ⟨hoN, hoq⟩ := hL _ (gdm hi)
    obtain ⟨b1, b2, b3, b4, b5, b6, b7, b8, b9⟩ := a4 _ hoN
    obtain ⟨b31, b32, b33⟩ := b3 hoq
    have hq : sCt G + i ∉ stl st := fun z => absurd (a3 _ z) (by omega)
    have er : (if sCt G ≤ sCt G + i then M + (sCt G + i - sCt G) else rk (sCt G + i)) = M + i := by rw [if_pos (by omega), show sCt G + i - sCt G = i by omega]
    unfold sND
    rw [o1, o2, o3, o4, o5, o6]
    refine ⟨b1, fun x hx => ?_, fun _ => ⟨?_, ?_, ?_⟩, fun z => absurd z hq, b5, b6, b7, b8, b9⟩
    · have hy : ∃ y, (sC1 G (L.getD i 0) = some y ∨ sC2 G (L.getD i 0) = some y) ∧ x = sCt G + ixF L y := by
        rcases hx with z | z
        · obtain ⟨y, h1, h2⟩ := Option.map_eq_some_iff.mp z
          exact ⟨y, Or.inl h1, h2.symm⟩
        · obtain ⟨y, h1, h2⟩ := Option.map_eq_some_iff.mp z
          exact ⟨y, Or.inr h1, h2.symm⟩
      obtain ⟨y, hy, rfl⟩ := hy
      obtain ⟨c1, c2⟩ := cl_ix hnd hcl hi hy
      refine ⟨by show _ < sCt G + L.length; omega, fun z => absurd (a3 _ z) (by omega), fun _ => ?_⟩
      show (if sCt G ≤ sCt G + ixF L y then M + (sCt G + ixF L y - sCt G) else rk (sCt G + ixF L y)) < (if sCt G ≤ sCt G + i then M + (sCt G + i - sCt G) else rk (sCt G + i))
      rw [er, if_pos (by omega)]
      omega
    · show (if sCt G ≤ sCt G + i then M + (sCt G + i - sCt G) else rk (sCt G + i)) < M + L.length
      rw [er]
      omega
    · rw [Option.isSome_map]; exact b32
    · rw [Option.isSome_map]; exact b33
/-- what holds at the beginning of a turn -/
def sInv (t : List Nat) (NL : List (List Nat × Nat)) (G : sG) (st : List (Option Nat)) : Prop := (∃ rk M, sOK t G st rk M) ∧ ∀ e ∈ NL, e.2 < sCt G ∧ e.2 ∉ stl st
theorem sOp_ok {c : Nat} {q : Nat × Nat × (Nat → Nat)} (hp : p ≤ t.length) (hc : 10 ≤ c) (hc2 : c ≤ 12) (h : sOp t c p = some q) : tkK t p = 5 ∧ (c = 12 → q.1 ≤ 167) ∧ (c ≠ 10 → q.2.1 = 0) ∧ ((c ≤ 9 ∨ c = 11) → q.1 = 0) ∧ (c = 11 → ∀ k, k < 8 → q.2.2 k < 4294967296) ∧ (c = 10 → q.1 + q.2.1 ≤ t.length ∧ ∀ i, i < q.2.1 → t.getD (q.1 + i) 0 = 48 ∨ t.getD (q.1 + i) 0 = 49) := by
  obtain ⟨b1, b2, b3, b4⟩ := tk_b hp
  unfold sOp at h
  split at h
  · rename_i e5
    refine ⟨e5, ?_⟩
    split at h
    · rename_i e10
      subst e10
      split at h
      · rename_i hr
        cases h
        refine ⟨fun z => by omega, fun z => absurd rfl z, fun z => by omega, fun z => by omega, fun _ => ?_⟩
        show tkF t p + rwL t (tkF t p) (tkE t p) ≤ t.length ∧ _
        unfold rwL
        split
        · exact ⟨by omega, fun i hi => absurd hi (Nat.not_lt_zero _)⟩
        · rename_i hne
          refine ⟨by omega, fun i hi => ?_⟩
          rcases hr with z | z
          · exact absurd z hne
          · exact z i hi
      · cases h
    · rename_i e10
      split at h
      · rename_i e11
        subst e11
        split at h
        · cases h
          refine ⟨fun z => by omega, fun _ => rfl, fun _ => rfl, fun _ k hk => ?_, fun z => by omega⟩
          show hdv t (tkF t p + 8 * k) 8 < 4294967296
          have hb : ∀ f i, hdv t f i < 16 ^ i := by
            intro f i
            induction i with
            | zero => exact Nat.one_pos
            | succ i ih =>
              rw [hdv, Nat.pow_succ]
              have : (hdg (t.getD (f + i) 0)).getD 0 < 16 := by
                unfold hdg
                split
                · show _ - 48 < 16; omega
                · split
                  · show _ - 87 < 16; omega
                  · decide
              omega
          exact hb _ 8
        · cases h
      · rename_i e11
        have e12 : c = 12 := by omega
        subst e12
        split at h
        · rename_i hj
          cases h
          exact ⟨fun _ => hj.2.2, fun _ => rfl, fun z => by omega, fun z => by omega, fun z => by omega⟩
        · cases h
  · cases h
theorem sBeg_ok {S : sS} {o : Option Nat} (hI : sInv t NL G st) (hp : p ≤ t.length) (h : sBeg t NL G st p = .inr (S, o)) : sInv t NL S.1 S.2.1 ∧ (∀ n, o = some n → n < sCt S.1 ∧ n ∉ stl S.2.1) ∧ p < S.2.2 ∧ S.2.2 ≤ t.length ∧ S.2.1.length ≤ st.length + 1 := by
  obtain ⟨⟨rk, M, hd⟩, hN⟩ := hI
  obtain ⟨b1, b2, b3, b4⟩ := tk_b hp
  obtain ⟨d1, d2, d3, d4⟩ := tk_b b3
  unfold sBeg at h
  split at h
  · rename_i e3
    cases h
    have := b4 (by rw [e3]; decide)
    exact ⟨⟨⟨rk, M, hd⟩, hN⟩, fun n z => (by cases z), by show p < tkE t p; omega, b3, Nat.le_refl _⟩
  · split at h
    · cases h
    · rename_i w ew
      have e5 := (wdO_W ew).1
      have lt1 := b4 (by rw [e5]; decide)
      split at h
      · split at h
        · cases h
        · rename_i n en
          cases h
          exact ⟨⟨⟨rk, M, hd⟩, hN⟩, fun m z => by cases z; exact hN _ (nmF_mem en), by show p < tkE t p; omega, b3, Nat.le_succ _⟩
      · rename_i c ec
        have hc14 := tgI_lt ec
        split at h
        · split at h
          · cases h
          · rename_i w2 ew2
            have e52 := (wdO_W ew2).1
            have lt2 := d4 (by rw [e52]; decide)
            split at h
            · cases h
            · split at h
              · cases h
              · rename_i root er
                obtain ⟨r1, r2⟩ := hN _ (nmF_mem er)
                split at h
                · cases h
                · rename_i hlen
                  obtain ⟨L, ho⟩ := df_ex (sOK_cN hd) r1
                  obtain ⟨l1, l2, l3, o9, l4⟩ := sOK_L hd r1 r2 ho
                  have hl1 : 1 ≤ L.length := by rw [l4, List.length_append]; exact Nat.le_add_left _ _
                  rw [dfL_of ho] at h hlen
                  cases h
                  refine ⟨⟨⟨_, _, sOK_copy hd l1 l2 l3 (by omega)⟩, fun e he => ⟨Nat.lt_of_lt_of_le (hN e he).1 (Nat.le_add_right _ _), (hN e he).2⟩⟩, fun n z => ?_, by show p < tkE t (tkE t p); omega, d3, Nat.le_succ _⟩
                  cases z
                  refine ⟨by show _ < sCt G + L.length; omega, fun z => absurd (hd.2.2.1 _ z) (by omega)⟩
        · rename_i c13
          split at h
          · cases h
          · rename_i hlt
            split at h
            · rename_i c6
              cases h
              have hq : ∀ x, x < sCt G → x ∉ stl st → x ∉ stl (some (sCt G) :: st) := fun x h1 h2 z => by
                rcases List.mem_cons.mp z with y | y
                · omega
                · exact h2 y
              exact ⟨⟨⟨rk, M, sOK_push hd (by omega) c6⟩, fun e he => ⟨Nat.lt_succ_of_lt (hN e he).1, hq _ (hN e he).1 (hN e he).2⟩⟩, fun n z => (by cases z), by show p < tkE t p; omega, b3, Nat.le_refl _⟩
            · rename_i c6
              have hnq : sCt G ∉ stl st := fun z => absurd (hd.2.2.1 _ z) (Nat.lt_irrefl _)
              split at h
              · rename_i c9
                cases h
                exact ⟨⟨⟨_, _, sOK_leaf hd (by omega) (by omega) (by omega) (fun z => by omega) (fun _ => rfl) (fun _ => rfl) (fun z => by omega) (fun z => by omega)⟩, fun e he => ⟨Nat.lt_succ_of_lt (hN e he).1, (hN e he).2⟩⟩, fun n z => by cases z; exact ⟨Nat.lt_succ_self _, hnq⟩, by show p < tkE t p; omega, b3, Nat.le_succ _⟩
              · rename_i c9
                split at h
                · cases h
                · rename_i q eq
                  obtain ⟨k5, q1, q2, q3, q4, q5⟩ := sOp_ok b3 (by omega) (by omega) eq
                  have lt2 := d4 (by rw [k5]; decide)
                  cases h
                  exact ⟨⟨⟨_, _, sOK_leaf hd (by omega) (by omega) (by omega) q1 q2 q3 q4 q5⟩, fun e he => ⟨Nat.lt_succ_of_lt (hN e he).1, (hN e he).2⟩⟩, fun n z => by cases z; exact ⟨Nat.lt_succ_self _, hnq⟩, by show p < tkE t (tkE t p); omega, d3, Nat.le_succ _⟩
theorem sFin_ok : ∀ (st : List (Option Nat)) {G : sG} {n p : Nat} {S : sS} {o : Option Nat}, sInv t NL G st → n < sCt G → n ∉ stl st → p ≤ t.length → sFin t n G st p = .inr (S, o) → sInv t NL S.1 S.2.1 ∧ (∀ m, o = some m → m < sCt S.1 ∧ S.2.1 = []) ∧ p ≤ S.2.2 ∧ S.2.2 ≤ t.length ∧ S.2.1.length ≤ st.length
  | [], G, n, p, S, o, hI, hn, hq, hp, h => by
    rw [sFin] at h
    cases h
    exact ⟨hI, fun m z => by cases z; exact ⟨hn, rfl⟩, Nat.le_refl _, hp, Nat.le_refl _⟩
  | none :: r, G, n, p, S, o, hI, hn, hq, hp, h => by
    obtain ⟨b1, b2, b3, b4⟩ := tk_b hp
    rw [sFin] at h
    split at h
    · obtain ⟨g1, g2, g3, g4, g5⟩ := sFin_ok r hI hn hq b3 h
      exact ⟨g1, g2, by omega, g4, Nat.le_succ_of_le g5⟩
    · cases h
  | some x :: r, G, n, p, S, o, hI, hn, hq, hp, h => by
    obtain ⟨⟨rk, M, hd⟩, hN⟩ := hI
    have nx : ∀ e ∈ NL, e.2 < sCt G ∧ e.2 ∉ stl r := fun e he => ⟨(hN e he).1, fun z => (hN e he).2 (List.mem_cons_of_mem _ z)⟩
    rw [sFin] at h
    split at h
    · rename_i hc
      obtain ⟨k1, k2, k3⟩ := sOK_pop2 hd hc hn hq
      obtain ⟨g1, g2, g3, g4, g5⟩ := sFin_ok r (G := sSet2 G x n) ⟨⟨_, _, k1⟩, nx⟩ k2 k3 hp h
      exact ⟨g1, g2, g3, g4, Nat.le_succ_of_le g5⟩
    · rename_i hc
      split at h
      · rename_i h2
        cases h
        exact ⟨⟨⟨_, _, sOK_set1 hd h2 hn hq⟩, hN⟩, fun m z => (by cases z), Nat.le_refl _, hp, Nat.le_refl _⟩
      · rename_i h2
        obtain ⟨k1, k2, k3⟩ := sOK_pop1 hd (by omega) hn hq
        obtain ⟨g1, g2, g3, g4, g5⟩ := sFin_ok r (G := sSet1 G x n) ⟨⟨_, _, k1⟩, nx⟩ k2 k3 hp h
        exact ⟨g1, g2, g3, g4, Nat.le_succ_of_le g5⟩
end PR
