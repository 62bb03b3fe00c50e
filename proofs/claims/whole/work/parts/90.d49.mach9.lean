/-! ===== the machine works any node ===== -/
def mc_cw (A : mc_A) (w : mc_W) (n x k : Nat) : Prop := (k + w_s w x ≤ w_s w n ∧ w_t w n = w_t w x ∧ 1 + w_b w x ≤ w_b w n ∧ w_d w x ≤ w_d w n ∧ w_c w x ≤ w_c w n ∧ w_f w x ≤ w_f w n) ∨ mc_op A x = 11
def mc_c1 (w : mc_W) (n x k j : Nat) : Prop := k + w_s w x ≤ w_s w n ∧ w_t w n = j + w_t w x ∧ 1 + w_b w x ≤ w_b w n ∧ w_d w x ≤ w_d w n ∧ w_c w x ≤ w_c w n ∧ w_f w x ≤ w_f w n
/-- widths and bounds that fit a node -/
def mc_wy (A : mc_A) (w : mc_W) (n : Nat) : Prop :=
  (mc_op A n = 0 → w_s w (mc_on A n) ≤ w_s w n ∧ w_t w (mc_on A n) = mc_sk A n ∧ w_s w (mc_tw A n) ≤ mc_sk A n ∧ w_t w (mc_tw A n) = w_t w n ∧ 1 + w_b w (mc_on A n) + w_b w (mc_tw A n) ≤ w_b w n ∧ 1 + w_d w (mc_on A n) ≤ w_d w n ∧ w_d w (mc_tw A n) ≤ w_d w n ∧ mc_sk A n + w_c w (mc_on A n) ≤ w_c w n ∧ mc_sk A n + w_c w (mc_tw A n) ≤ w_c w n ∧ 1 + w_f w (mc_on A n) ≤ w_f w n ∧ 1 + w_f w (mc_tw A n) ≤ w_f w n) ∧
  (mc_op A n = 1 → 1 ≤ w_s w n ∧ mc_cw A w n (mc_on A n) (mc_sk A n) ∧ mc_cw A w n (mc_tw A n) (mc_ot A n)) ∧
  (mc_op A n = 2 → w_s w (mc_on A n) ≤ w_s w n ∧ w_t w (mc_on A n) = mc_sk A n ∧ w_s w (mc_tw A n) ≤ w_s w n ∧ mc_sk A n + w_t w (mc_tw A n) = w_t w n ∧ 1 + w_b w (mc_on A n) + w_b w (mc_tw A n) ≤ w_b w n ∧ 1 + w_d w (mc_on A n) ≤ w_d w n ∧ w_d w (mc_tw A n) ≤ w_d w n ∧ w_c w (mc_on A n) ≤ w_c w n ∧ w_c w (mc_tw A n) ≤ w_c w n ∧ w_f w (mc_on A n) ≤ w_f w n ∧ w_f w (mc_tw A n) ≤ w_f w n) ∧
  ((mc_op A n = 3 ∨ mc_op A n = 4) → mc_c1 w n (mc_on A n) 0 (1 + mc_sk A n)) ∧ (mc_op A n = 5 → mc_c1 w n (mc_on A n) 0 0) ∧ (mc_op A n = 6 → mc_c1 w n (mc_on A n) (mc_sk A n) 0) ∧
  (mc_op A n = 7 → mc_ot A n + mc_sk A n ≤ w_s w n ∧ w_t w n = mc_sk A n) ∧ (mc_op A n = 8 → w_t w n = 0) ∧ (mc_op A n = 10 → w_t w n = mc_ot A n ∧ mc_sk A n + mc_ot A n ≤ 70000) ∧ 1 ≤ w_b w n ∧ w_r w n < 8000
theorem Lr_one {w : mc_W} {n x k j : Nat} {wr : List Bool} {rx : (Nat → Bool) → Option mc_V} (hx : mc_c1 w n x k j) (hj : wr.length = j) (lx : Lr w x rx) : Lr w n (fun u => match rx (mc_sh u k) with
      | some (a, s1, c1, g1) => some (wr ++ a, 1 + s1, c1, g1)
      | none => none) := by
  obtain ⟨a1, a2, a3, a4, a5, a6⟩ := hx
  refine ⟨fun u u' hu => ?_, fun u a s c g h => ?_⟩
  · have : rx (mc_sh u k) = rx (mc_sh u' k) := lx.1 _ _ (fun i hi => hu (k + i) (by omega))
    simp only [this]
  · cases hr : rx (mc_sh u k) with
    | none => simp only [hr] at h; cases h
    | some v =>
      obtain ⟨a', s', c', g'⟩ := v
      simp only [hr, Option.some.injEq, Prod.mk.injEq] at h
      obtain ⟨rfl, rfl, rfl, rfl⟩ := h
      obtain ⟨l1, l2, l3⟩ := lx.2 _ _ _ _ _ hr
      exact ⟨by rw [List.length_append]; omega, by omega, by omega⟩
theorem Lr_two {w : mc_W} {n x y : Nat} {rx ry : (Nat → Bool) → Option mc_V} {mk : List Bool → List Bool → List Bool} {nx : List Bool → (Nat → Bool) → (Nat → Bool)} {C G : Nat → Nat → Nat} (lx : Lr w x rx) (ly : Lr w y ry) (a1 : w_s w x ≤ w_s w n)
    (hnx : ∀ a u u', a.length = w_t w x → (∀ i, i < w_s w n → u i = u' i) → ∀ i, i < w_s w y → nx a u i = nx a u' i) (hmk : ∀ a b, a.length = w_t w x → b.length = w_t w y → (mk a b).length = w_t w n) (hC : ∀ a b, a ≤ w_c w x → b ≤ w_c w y → C a b ≤ w_c w n) (hG : ∀ a b, a ≤ w_f w x → b ≤ w_f w y → G a b ≤ w_f w n) : Lr w n (fun u => match rx u with
      | some (a, s1, c1, g1) => match ry (nx a u) with
        | some (b, s2, c2, g2) => some (mk a b, 1 + s1 + s2, C c1 c2, G g1 g2)
        | none => none
      | none => none) := by
  refine ⟨fun u u' hu => ?_, fun u a s c g h => ?_⟩
  · have e1 : rx u = rx u' := lx.1 _ _ (fun i hi => hu i (by omega))
    cases hr : rx u' with
    | none => simp only [e1, hr]
    | some v =>
      obtain ⟨a', s', c', g'⟩ := v
      have e2 : ry (nx a' u) = ry (nx a' u') := ly.1 _ _ (hnx a' u u' (lx.2 _ _ _ _ _ hr).1 hu)
      simp only [e1, hr, e2]
  · cases hr : rx u with
    | none => simp only [hr] at h; cases h
    | some v =>
      obtain ⟨a', s', c', g'⟩ := v
      cases hr2 : ry (nx a' u) with
      | none => simp only [hr, hr2] at h; cases h
      | some v2 =>
        obtain ⟨b', s2, c2, g2⟩ := v2
        simp only [hr, hr2, Option.some.injEq, Prod.mk.injEq] at h
        obtain ⟨rfl, rfl, rfl, rfl⟩ := h
        obtain ⟨l1, l2, l3⟩ := lx.2 _ _ _ _ _ hr
        obtain ⟨m1, m2, m3⟩ := ly.2 _ _ _ _ _ hr2
        exact ⟨hmk _ _ l1 m1, hC _ _ l2 m2, hG _ _ l3 m3⟩
section BA
variable {sc : xm_Sc} {d pp df : Nat} {A : mc_A} {w : mc_W} {H0 : xm_H} {post : xm_Po} {l : List Nat} {X : Nat → Prop} {jf : Nat → (Nat → Bool) → Option mc_V}
theorem bg_all (hpp : pp = 52 ∨ pp = 77) (hl : rowIs H0 (pp + 12) (pp + 13) l) (hX : ∀ n x, X n → mc_ch A n x → X x ∧ w_r w x < w_r w n) (hcd : ∀ n, X n → cdN H0 A n) (hwy : ∀ n, X n → mc_wy A w n) (hop : ∀ n, X n → mc_op A n ≤ 12)
    (hjet : ∀ n, X n → mc_op A n = 12 → Bg sc d pp df w H0 post n (fun u => match jf n u with
      | some (a, s1, c1, g1) => some (a, 1 + s1, c1, g1)
      | none => none) ∧ Lr w n (fun u => match jf n u with
      | some (a, s1, c1, g1) => some (a, 1 + s1, c1, g1)
      | none => none)) : ∀ (f n : Nat), X n → w_r w n < f → Bg sc d pp df w H0 post n (mc_ev A jf (byB l) f n) ∧ Lr w n (mc_ev A jf (byB l) f n) := by
  intro f
  induction f with
  | zero => intro n _ h; omega
  | succ f ih =>
    intro n hn hf
    obtain ⟨t0, t1, t2, t3, t5, t6, t7, t8, t10, tb, tr⟩ := hwy n hn
    have hc := hcd n hn
    have hon : mc_op A n ≤ 6 → (Bg sc d pp df w H0 post (mc_on A n) (mc_ev A jf (byB l) f (mc_on A n)) ∧ Lr w (mc_on A n) (mc_ev A jf (byB l) f (mc_on A n))) ∧ w_r w (mc_on A n) < w_r w n ∧ X (mc_on A n) := fun h => by
      have := hX n _ hn (Or.inl ⟨h, rfl⟩)
      exact ⟨ih _ this.1 (by omega), this.2, this.1⟩
    have htw : mc_op A n ≤ 2 → (Bg sc d pp df w H0 post (mc_tw A n) (mc_ev A jf (byB l) f (mc_tw A n)) ∧ Lr w (mc_tw A n) (mc_ev A jf (byB l) f (mc_tw A n))) ∧ w_r w (mc_tw A n) < w_r w n ∧ X (mc_tw A n) := fun h => by
      have := hX n _ hn (Or.inr ⟨h, rfl⟩)
      exact ⟨ih _ this.1 (by omega), this.2, this.1⟩
    have e3 : ∀ u : Nat → Bool, mc_sh u 0 = u := fun u => by funext i; simp [mc_sh]
    have h12 := hop n hn
    rcases op_cs (by omega : mc_op A n < 13) with e | e | e | e | e | e | e | e | e | e | e | e | e
    · obtain ⟨a1, a2, a3, a4, a5, a6, a7, a8, a9, a10, a11⟩ := t0 e
      obtain ⟨⟨x1, x2⟩, x3, _⟩ := hon (by omega)
      obtain ⟨⟨y1, y2⟩, y3, _⟩ := htw (by omega)
      have e2 : mc_ev A jf (byB l) (f + 1) n = fun u => match mc_ev A jf (byB l) f (mc_on A n) u with
        | some (a, s1, c1, g1) => match mc_ev A jf (byB l) f (mc_tw A n) (mc_ex a) with
          | some (b, s2, c2, g2) => some (b, 1 + s1 + s2, mc_sk A n + max c1 c2, 1 + max g1 g2)
          | none => none
        | none => none := by funext u; simp only [mc_ev, e] <;> rfl
      rw [e2]
      exact ⟨bg_comp hpp hc e rfl rfl rfl x1 y1 x2 y2 a1 a2 a3 a4 a5 a6 a7 a8 a9 a10 a11 x3 (by omega), Lr_two (nx := fun a _ => mc_ex a) (mk := fun _ b => b) (C := fun c1 c2 => mc_sk A n + max c1 c2) (G := fun g1 g2 => 1 + max g1 g2) x2 y2 a1 (fun _ _ _ _ _ _ _ => rfl) (fun a b ha hb => by rw [hb, a4]) (fun a b ha hb => by omega) (fun a b ha hb => by omega)⟩
    · obtain ⟨a0, a1, a2⟩ := t1 e
      have cs : ∀ x k, mc_cw A w n x k → (Bg sc d pp df w H0 post x (mc_ev A jf (byB l) f x) ∧ Lr w x (mc_ev A jf (byB l) f x)) → w_r w x < w_r w n → X x → csP sc d pp df A w H0 post n x k (mc_ev A jf (byB l) f x) := by
        intro x k hcw hb hr hx
        rcases hcw with ⟨b1, b2, b3, b4, b5, b6⟩ | b1
        · exact Or.inl ⟨hb.1, hb.2, b1, b2, b3, b4, b5, b6, hr⟩
        · exact Or.inr ⟨b1, hcd x hx, mc_ev_0 (Or.inr b1), by omega⟩
      obtain ⟨x1, x3, x4⟩ := hon (by omega)
      obtain ⟨y1, y3, y4⟩ := htw (by omega)
      have e2 : mc_ev A jf (byB l) (f + 1) n = fun u => match (if u 0 = false then mc_ev A jf (byB l) f (mc_on A n) (mc_sh u (mc_sk A n)) else mc_ev A jf (byB l) f (mc_tw A n) (mc_sh u (mc_ot A n))) with
        | some (a, s1, c1, g1) => some (a, 1 + s1, c1, g1)
        | none => none := by
        funext u
        simp only [mc_ev, e]
        by_cases hu : u 0 = false
        · simp only [if_pos hu] <;> rfl
        · simp only [if_neg hu] <;> rfl
      rw [e2]
      refine ⟨bg_case hc e rfl rfl rfl rfl (cs _ _ a1 x1 x3 x4) (cs _ _ a2 y1 y3 y4) a0, fun u u' hu => ?_, fun u a s c g h => ?_⟩
      · have l1 : mc_ev A jf (byB l) f (mc_on A n) (mc_sh u (mc_sk A n)) = mc_ev A jf (byB l) f (mc_on A n) (mc_sh u' (mc_sk A n)) := by
          rcases a1 with b | b
          · exact x1.2.1 _ _ (fun i hi => hu _ (by omega))
          · rw [mc_ev_0 (Or.inr b), mc_ev_0 (Or.inr b)]
        have l2 : mc_ev A jf (byB l) f (mc_tw A n) (mc_sh u (mc_ot A n)) = mc_ev A jf (byB l) f (mc_tw A n) (mc_sh u' (mc_ot A n)) := by
          rcases a2 with b | b
          · exact y1.2.1 _ _ (fun i hi => hu _ (by omega))
          · rw [mc_ev_0 (Or.inr b), mc_ev_0 (Or.inr b)]
        simp only [l1, l2, hu 0 (by omega)]
      · have fin : ∀ x k, mc_cw A w n x k → Lr w x (mc_ev A jf (byB l) f x) → ∀ u' a' s' c' g', mc_ev A jf (byB l) f x u' = some (a', s', c', g') → a'.length = w_t w n ∧ c' ≤ w_c w n ∧ g' ≤ w_f w n := by
          intro x k hcw hb u' a' s' c' g' hr
          rcases hcw with ⟨b1, b2, b3, b4, b5, b6⟩ | b1
          · obtain ⟨l1, l2, l3⟩ := hb.2 _ _ _ _ _ hr
            exact ⟨by omega, by omega, by omega⟩
          · rw [mc_ev_0 (Or.inr b1)] at hr; cases hr
        by_cases hu : u 0 = false
        · cases hr : mc_ev A jf (byB l) f (mc_on A n) (mc_sh u (mc_sk A n)) with
          | none => simp only [if_pos hu, hr] at h; cases h
          | some v =>
            obtain ⟨a', s', c', g'⟩ := v
            simp only [if_pos hu, hr, Option.some.injEq, Prod.mk.injEq] at h
            obtain ⟨rfl, rfl, rfl, rfl⟩ := h
            exact fin _ _ a1 x1.2 _ _ _ _ _ hr
        · cases hr : mc_ev A jf (byB l) f (mc_tw A n) (mc_sh u (mc_ot A n)) with
          | none => simp only [if_neg hu, hr] at h; cases h
          | some v =>
            obtain ⟨a', s', c', g'⟩ := v
            simp only [if_neg hu, hr, Option.some.injEq, Prod.mk.injEq] at h
            obtain ⟨rfl, rfl, rfl, rfl⟩ := h
            exact fin _ _ a2 y1.2 _ _ _ _ _ hr
    · obtain ⟨a1, a2, a3, a4, a5, a6, a7, a8, a9, a10, a11⟩ := t2 e
      obtain ⟨⟨x1, x2⟩, x3, _⟩ := hon (by omega)
      obtain ⟨⟨y1, y2⟩, y3, _⟩ := htw (by omega)
      have e2 : mc_ev A jf (byB l) (f + 1) n = fun u => match mc_ev A jf (byB l) f (mc_on A n) u with
        | some (a, s1, c1, g1) => match mc_ev A jf (byB l) f (mc_tw A n) u with
          | some (b, s2, c2, g2) => some (a ++ b, 1 + s1 + s2, max c1 c2, max g1 g2)
          | none => none
        | none => none := by funext u; simp only [mc_ev, e] <;> rfl
      rw [e2]
      exact ⟨bg_pair hpp hc e rfl rfl rfl x1 y1 x2 y2 a1 a2 a3 a4 a5 a6 a7 a8 a9 a10 a11 x3 (by omega), Lr_two (nx := fun _ u => u) (mk := fun a b => a ++ b) (C := fun c1 c2 => max c1 c2) (G := fun g1 g2 => max g1 g2) x2 y2 a1 (fun _ _ _ _ hu i hi => hu i (by omega)) (fun a b ha hb => by rw [List.length_append]; omega) (fun a b ha hb => by omega) (fun a b ha hb => by omega)⟩
    · have c1 := t3 (Or.inl e)
      obtain ⟨a1, a2, a3, a4, a5, a6⟩ := c1
      obtain ⟨⟨x1, x2⟩, x3, _⟩ := hon (by omega)
      have e2 : mc_ev A jf (byB l) (f + 1) n = fun u => match mc_ev A jf (byB l) f (mc_on A n) u with
        | some (a, s1, c1, g1) => some (((0 : Nat) == 1) :: (List.replicate (mc_sk A n) false ++ a), 1 + s1, c1, g1)
        | none => none := by funext u; simp only [mc_ev, e] <;> rfl
      have e4 : mc_ev A jf (byB l) (f + 1) n = fun u => match mc_ev A jf (byB l) f (mc_on A n) (mc_sh u 0) with
        | some (a, s1, c1, g1) => some ((false :: List.replicate (mc_sk A n) false) ++ a, 1 + s1, c1, g1)
        | none => none := by funext u; rw [e3]; simp only [mc_ev, e, List.cons_append] <;> rfl
      refine ⟨?_, ?_⟩
      · rw [e2]; exact bg_inj hc (Or.inl ⟨e, rfl⟩) rfl rfl x1 x2 (by omega) (by omega) a3 a4 a5 a6 x3
      · rw [e4]; exact Lr_one (t3 (Or.inl e)) (by simp [Nat.add_comm]) x2
    · have c1 := t3 (Or.inr e)
      obtain ⟨a1, a2, a3, a4, a5, a6⟩ := c1
      obtain ⟨⟨x1, x2⟩, x3, _⟩ := hon (by omega)
      have e2 : mc_ev A jf (byB l) (f + 1) n = fun u => match mc_ev A jf (byB l) f (mc_on A n) u with
        | some (a, s1, c1, g1) => some (((1 : Nat) == 1) :: (List.replicate (mc_sk A n) false ++ a), 1 + s1, c1, g1)
        | none => none := by funext u; simp only [mc_ev, e] <;> rfl
      have e4 : mc_ev A jf (byB l) (f + 1) n = fun u => match mc_ev A jf (byB l) f (mc_on A n) (mc_sh u 0) with
        | some (a, s1, c1, g1) => some ((true :: List.replicate (mc_sk A n) false) ++ a, 1 + s1, c1, g1)
        | none => none := by funext u; rw [e3]; simp only [mc_ev, e, List.cons_append] <;> rfl
      refine ⟨?_, ?_⟩
      · rw [e2]; exact bg_inj hc (Or.inr ⟨e, rfl⟩) rfl rfl x1 x2 (by omega) (by omega) a3 a4 a5 a6 x3
      · rw [e4]; exact Lr_one (t3 (Or.inr e)) (by simp [Nat.add_comm]) x2
    · obtain ⟨a1, a2, a3, a4, a5, a6⟩ := t5 e
      obtain ⟨⟨x1, x2⟩, x3, _⟩ := hon (by omega)
      have e2 : mc_ev A jf (byB l) (f + 1) n = fun u => match mc_ev A jf (byB l) f (mc_on A n) (mc_sh u 0) with
        | some (a, s1, c1, g1) => some (a, 1 + s1, c1, g1)
        | none => none := by funext u; rw [e3]; simp only [mc_ev, e] <;> rfl
      rw [e2]
      exact ⟨bg_drop hc (Or.inr ⟨e, rfl⟩) rfl x1 x2 (by omega) (by omega) a3 a4 a5 a6 x3, Lr_one (wr := []) (t5 e) rfl x2⟩
    · obtain ⟨a1, a2, a3, a4, a5, a6⟩ := t6 e
      obtain ⟨⟨x1, x2⟩, x3, _⟩ := hon (by omega)
      have e2 : mc_ev A jf (byB l) (f + 1) n = fun u => match mc_ev A jf (byB l) f (mc_on A n) (mc_sh u (mc_sk A n)) with
        | some (a, s1, c1, g1) => some (a, 1 + s1, c1, g1)
        | none => none := by funext u; simp only [mc_ev, e] <;> rfl
      rw [e2]
      exact ⟨bg_drop hc (Or.inl ⟨e, rfl⟩) rfl x1 x2 (by omega) (by omega) a3 a4 a5 a6 x3, Lr_one (wr := []) (t6 e) rfl x2⟩
    · obtain ⟨a1, a2⟩ := t7 e
      have e2 : mc_ev A jf (byB l) (f + 1) n = fun u => some (mc_rd u (mc_ot A n) (mc_sk A n), 1 + mc_sk A n, 0, 0) := by funext u; simp only [mc_ev, e]
      rw [e2]
      refine ⟨bg_iden hc e rfl rfl a1 a2 tb, fun u u' hu => ?_, fun u a s c g h => ?_⟩
      · have : mc_rd u (mc_ot A n) (mc_sk A n) = mc_rd u' (mc_ot A n) (mc_sk A n) := mc_rd_congr (fun i hi => hu _ (by omega))
        simp only [this]
      · simp only [Option.some.injEq, Prod.mk.injEq] at h
        obtain ⟨rfl, rfl, rfl, rfl⟩ := h
        exact ⟨by rw [mc_rd_len, a2], Nat.zero_le _, Nat.zero_le _⟩
    · have e2 : mc_ev A jf (byB l) (f + 1) n = fun _ => some ([], 1, 0, 0) := by funext u; simp only [mc_ev, e]
      rw [e2]
      refine ⟨bg_unit hc e (t8 e) tb, fun _ _ _ => rfl, fun u a s c g h => ?_⟩
      simp only [Option.some.injEq, Prod.mk.injEq] at h
      obtain ⟨rfl, rfl, rfl, rfl⟩ := h
      exact ⟨(t8 e).symm, Nat.zero_le _, Nat.zero_le _⟩
    · obtain ⟨a1, a2⟩ := t10 e
      have e2 : mc_ev A jf (byB l) (f + 1) n = fun _ => some (mc_rd (byB l) (mc_sk A n) (mc_ot A n), 1 + mc_ot A n, 0, 0) := by funext u; simp only [mc_ev, e]
      rw [e2]
      refine ⟨bg_wit hpp hc e rfl rfl hl a2 a1 tb, fun _ _ _ => rfl, fun u a s c g h => ?_⟩
      simp only [Option.some.injEq, Prod.mk.injEq] at h
      obtain ⟨rfl, rfl, rfl, rfl⟩ := h
      exact ⟨by rw [mc_rd_len, a1], Nat.zero_le _, Nat.zero_le _⟩
    · have e2 : mc_ev A jf (byB l) (f + 1) n = fun u => match jf n u with
        | some (a, s1, c1, g1) => some (a, 1 + s1, c1, g1)
        | none => none := by funext u; simp only [mc_ev, e] <;> rfl
      rw [e2]
      exact hjet n hn e
    · have e2 : mc_ev A jf (byB l) (f + 1) n = fun _ => none := by funext u; exact mc_ev_0 (Or.inl e) u
      rw [e2]
      exact ⟨bg_fail hc (Or.inl e) tb, fun _ _ _ => rfl, fun u a s c g h => by cases h⟩
    · have e2 : mc_ev A jf (byB l) (f + 1) n = fun _ => none := by funext u; exact mc_ev_0 (Or.inr e) u
      rw [e2]
      exact ⟨bg_fail hc (Or.inr e) tb, fun _ _ _ => rfl, fun u a s c g h => by cases h⟩
end BA
