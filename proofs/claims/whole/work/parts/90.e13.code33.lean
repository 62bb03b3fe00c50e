/-! ===== the class's machine works a loaded program, jets as they are defined ===== -/
theorem wy_lo {Q : mc_A} {W : mc_W} {G : Nat → gN} {n : Nat} (hn : n < 400) (hon : mc_op Q n ≤ 6 → mc_on Q n < 400) (htw : mc_op Q n ≤ 2 → mc_tw Q n < 400) (h : mc_wy Q W n) : mc_wy (gA Q G) (gMW W G) n := by
  obtain ⟨o1, o2, o3, o4, o5⟩ := gA_lo (Q := Q) (G := G) hn
  obtain ⟨s1, s2, s3, s4, s5, s6, s7⟩ := gM_lo (W := W) (G := G) hn
  obtain ⟨h0, h1, h2, h3, h5, h6, h7, h8, h10, hb, hr⟩ := h
  unfold mc_wy mc_cw mc_c1
  rw [o1, o2, o3, o4, o5, s1, s2, s3, s4, s5, s6, s7]
  refine ⟨fun e => ?_, fun e => ?_, fun e => ?_, fun e => ?_, fun e => ?_, fun e => ?_, h7, h8, h10, hb, by omega⟩
  · obtain ⟨x1, x2, x3, x4, x5, x6, x7⟩ := gM_lo (W := W) (G := G) (hon (by rw [e]; decide))
    obtain ⟨y1, y2, y3, y4, y5, y6, y7⟩ := gM_lo (W := W) (G := G) (htw (by rw [e]; decide))
    rw [x1, x2, x3, x4, x5, x6, y1, y2, y3, y4, y5, y6]
    exact h0 e
  · obtain ⟨x1, x2, x3, x4, x5, x6, x7⟩ := gM_lo (W := W) (G := G) (hon (by rw [e]; decide))
    obtain ⟨y1, y2, y3, y4, y5, y6, y7⟩ := gM_lo (W := W) (G := G) (htw (by rw [e]; decide))
    rw [x1, x2, x3, x4, x5, x6, y1, y2, y3, y4, y5, y6, (gA_lo (Q := Q) (G := G) (hon (by rw [e]; decide))).1, (gA_lo (Q := Q) (G := G) (htw (by rw [e]; decide))).1]
    exact h1 e
  · obtain ⟨x1, x2, x3, x4, x5, x6, x7⟩ := gM_lo (W := W) (G := G) (hon (by rw [e]; decide))
    obtain ⟨y1, y2, y3, y4, y5, y6, y7⟩ := gM_lo (W := W) (G := G) (htw (by rw [e]; decide))
    rw [x1, x2, x3, x4, x5, x6, y1, y2, y3, y4, y5, y6]
    exact h2 e
  · obtain ⟨x1, x2, x3, x4, x5, x6, x7⟩ := gM_lo (W := W) (G := G) (hon (by rcases e with e | e <;> rw [e] <;> decide))
    rw [x1, x2, x3, x4, x5, x6]
    exact h3 e
  · obtain ⟨x1, x2, x3, x4, x5, x6, x7⟩ := gM_lo (W := W) (G := G) (hon (by rw [e]; decide))
    rw [x1, x2, x3, x4, x5, x6]
    exact h5 e
  · obtain ⟨x1, x2, x3, x4, x5, x6, x7⟩ := gM_lo (W := W) (G := G) (hon (by rw [e]; decide))
    rw [x1, x2, x3, x4, x5, x6]
    exact h6 e
theorem qj_le {k l : Nat} (hk : k < 42) (h3 : 3 ≤ l) (hl : l < 7) : qle (qj k l) (199999, 40, 4000) := (by decide : ∀ k, k < 42 → ∀ l, l < 7 → 3 ≤ l → qle (qj k l) (199999, 40, 4000)) k hk l hl h3
theorem js_w {num : Nat} (hn : num < 168) : jWs (jt_S (num / 4)) (2 ^ (3 + num % 4)) = ty_w (ty_js num) := by rw [Nat.pow_add, show 2 ^ 3 = 8 from rfl]; exact jW_js hn
theorem jt_w {num : Nat} (hn : num < 168) : jWt (jt_T (num / 4)) (2 ^ (3 + num % 4)) = ty_w (ty_jt num) := by rw [Nat.pow_add, show 2 ^ 3 = 8 from rfl]; exact jW_jt hn
/-- a definition gives what its jet gives -/
theorem gJ_ev {Q : mc_A} {G : Nat → gN} {c p num : Nat} {jf : Nat → (Nat → Bool) → Option mc_V} {wb : Nat → Bool} (hI : ∀ n, 400 ≤ n → n < c → gW G n (G n)) (hc : c ≤ 8000) (hn : num < 168) (hg : gJ G c p (num / 4) (3 + num % 4)) (u : Nat → Bool) : ∃ s c' g, mc_ev (gA Q G) jf wb 7600 p u = some (jtL num u, s, c', g) := by
  obtain ⟨F, v, hs⟩ := hg
  obtain ⟨s, c', g, e⟩ := ev_def (Q := Q) (jf := jf) (wb := wb) hI 7600 p v.1 v.2.1 (by have := v.2.1; omega) u
  refine ⟨s, c', g, ?_⟩
  rw [e, v.2.2.1, v.2.2.2.2.1 _ (mc_rd_len _ _ _), hs _ (mc_rd_len _ _ _), js_w hn]
  have e2 : jtL num (mc_ex (mc_rd u 0 (ty_w (ty_js num)))) = jtL num u := jtL_cg hn (fun i hi => by
    show (mc_rd u 0 _).getD i false = _
    rw [mc_rd_get _ _ hi, Nat.zero_add])
  rw [← e2]
  unfold jtL
  rw [show 2 ^ (3 + num % 4) = 8 * 2 ^ (num % 4) by rw [Nat.pow_add]]
theorem map_cs {x y : Option mc_V} (h : x.map Prod.fst = y.map Prod.fst) : (x = none ∧ y = none) ∨ ∃ a s c g s' c' g', x = some (a, s, c, g) ∧ y = some (a, s', c', g') := by
  cases x with
  | none => cases y with
    | none => exact Or.inl ⟨rfl, rfl⟩
    | some y => cases h
  | some x => cases y with
    | none => cases h
    | some y =>
      obtain ⟨a, s, c, g⟩ := x
      obtain ⟨a', s', c', g'⟩ := y
      simp only [Option.map_some, Option.some.injEq] at h
      subst h
      exact Or.inr ⟨a, s, c, g, s', c', g', rfl, rfl⟩
/-- the same bits, whether jets are defined or not -/
theorem ev_bits {Q : mc_A} {G : Nat → gN} {N : Nat} {jf jf' : Nat → (Nat → Bool) → Option mc_V} {wb : Nat → Bool} (hN : N ≤ 400) (hch : ∀ n x, n < N → mc_ch Q n x → x < N) (hj : ∀ n, n < N → mc_op Q n = 12 → ∀ u, (jf n u).map Prod.fst = (jf' n u).map Prod.fst) : ∀ (f n : Nat) (u : Nat → Bool), n < N → (mc_ev (gA Q G) jf wb f n u).map Prod.fst = (mc_ev Q jf' wb f n u).map Prod.fst := by
  intro f
  induction f with
  | zero => intro n u hn; rfl
  | succ f ih =>
    intro n u hn
    obtain ⟨o1, o2, o3, o4, o5⟩ := gA_lo (Q := Q) (G := G) (show n < 400 by omega)
    have hon : mc_op Q n ≤ 6 → mc_on Q n < N := fun h => hch n _ hn (Or.inl ⟨h, rfl⟩)
    have htw : mc_op Q n ≤ 2 → mc_tw Q n < N := fun h => hch n _ hn (Or.inr ⟨h, rfl⟩)
    unfold mc_ev
    rw [o1, o2, o3, o4, o5]
    split
    · rename_i e
      rcases map_cs (ih _ u (hon (by rw [e]; decide))) with ⟨h1, h2⟩ | ⟨a, s, c, g, s', c', g', h1, h2⟩
      · rw [h1, h2]
      · rw [h1, h2]
        simp only
        rcases map_cs (ih _ (mc_ex a) (htw (by rw [e]; decide))) with ⟨h3, h4⟩ | ⟨a2, s2, c2, g2, s2', c2', g2', h3, h4⟩
        · rw [h3, h4]
        · rw [h3, h4]; rfl
    · rename_i e
      have hx : (if u 0 = false then mc_on Q n else mc_tw Q n) < N := by
        split
        · exact hon (by rw [e]; decide)
        · exact htw (by rw [e]; decide)
      rcases map_cs (ih _ (mc_sh u (if u 0 = false then mc_sk Q n else mc_ot Q n)) hx) with ⟨h1, h2⟩ | ⟨a, s, c, g, s', c', g', h1, h2⟩
      · rw [h1, h2]
      · rw [h1, h2]; rfl
    · rename_i e
      rcases map_cs (ih _ u (hon (by rw [e]; decide))) with ⟨h1, h2⟩ | ⟨a, s, c, g, s', c', g', h1, h2⟩
      · rw [h1, h2]
      · rw [h1, h2]
        simp only
        rcases map_cs (ih _ u (htw (by rw [e]; decide))) with ⟨h3, h4⟩ | ⟨a2, s2, c2, g2, s2', c2', g2', h3, h4⟩
        · rw [h3, h4]
        · rw [h3, h4]; rfl
    · rename_i e
      rcases map_cs (ih _ u (hon (by rw [e]; decide))) with ⟨h1, h2⟩ | ⟨a, s, c, g, s', c', g', h1, h2⟩
      · rw [h1, h2]
      · rw [h1, h2]; rfl
    · rename_i e
      rcases map_cs (ih _ u (hon (by rw [e]; decide))) with ⟨h1, h2⟩ | ⟨a, s, c, g, s', c', g', h1, h2⟩
      · rw [h1, h2]
      · rw [h1, h2]; rfl
    · rename_i e
      rcases map_cs (ih _ u (hon (by rw [e]; decide))) with ⟨h1, h2⟩ | ⟨a, s, c, g, s', c', g', h1, h2⟩
      · rw [h1, h2]
      · rw [h1, h2]; rfl
    · rename_i e
      rcases map_cs (ih _ (mc_sh u (mc_sk Q n)) (hon (by rw [e]; decide))) with ⟨h1, h2⟩ | ⟨a, s, c, g, s', c', g', h1, h2⟩
      · rw [h1, h2]
      · rw [h1, h2]; rfl
    · rfl
    · rfl
    · rfl
    · rename_i e
      rcases map_cs (hj n hn e u) with ⟨h1, h2⟩ | ⟨a, s, c, g, s', c', g', h1, h2⟩
      · rw [h1, h2]
      · rw [h1, h2]; rfl
    · rfl
section PB
variable {sc : xm_Sc} {d pp : Nat} {l : List Nat} {ps : List pr_D} {a k b c : Nat} {S T : Nat → Ty} {C F B : Nat → Nat} {G : Nat → gN} {H0 : xm_H}
theorem bg_p1 (hpp : pp = 52 ∨ pp = 77) (hr : rowIs H0 (pp + 12) (pp + 13) l) (hc : ciV H0 ps.length b ps S T) (ho : psOK ps) (hG : LdG l ps a 0 S T) (hk : pr_nat (by_bit l) (8 * l.length) a = .ok (k, b)) (hN : ps.length ≤ 400) (hb : bnd ps S T C F B ps.length) (hI : gI H0 G c)
    (hdf : ∀ n, n < ps.length → pC ps n = 12 → ∃ p, H0.1 28 (pNu ps n) = nI p ∧ gJ G c p (pNu ps n / 4) (3 + pNu ps n % 4)) {n : Nat} (hX : pX ps B n) :
    ∃ r : (Nat → Bool) → Option mc_V, (∀ post, Bg sc d pp 1 (gMW (pW (l, ps, a, S, T) B) G) H0 post n r) ∧ Lr (gMW (pW (l, ps, a, S, T) B) G) n r ∧ ∀ u, (r u).map Prod.fst = (mc_ev (mcQ (l, ps, a, S, T)) (jf0 (mcQ (l, ps, a, S, T))) (byB l) 8000 n u).map Prod.fst := by
  have hl := hr.2.2.1
  have hIw : ∀ n, 400 ≤ n → n < c → gW G n (G n) := fun n h1 h2 => (hI.2.2.2 n h1 h2).1
  have hc8 : c ≤ 8000 := hI.2.2.1
  obtain ⟨P, hP⟩ : ∃ P : Nat → Nat, ∀ n, n < ps.length → pC ps n = 12 → H0.1 28 (pNu ps n) = nI (P n) ∧ gJ G c (P n) (pNu ps n / 4) (3 + pNu ps n % 4) := by
    refine Classical.axiomOfChoice (r := fun n p => n < ps.length → pC ps n = 12 → H0.1 28 (pNu ps n) = nI p ∧ gJ G c p (pNu ps n / 4) (3 + pNu ps n % 4)) (fun n => ?_)
    by_cases h1 : n < ps.length
    · by_cases h2 : pC ps n = 12
      · obtain ⟨p, hp⟩ := hdf n h1 h2
        exact ⟨p, fun _ _ => hp⟩
      · exact ⟨0, fun _ z => absurd z h2⟩
    · exact ⟨0, fun z => absurd z h1⟩
  have hch : ∀ n x, n < ps.length → mc_ch (mcQ (l, ps, a, S, T)) n x → x < n := fun n x hn hc => by
    have hq := mqW_of ho hG hn
    rcases hc with ⟨h1, rfl⟩ | ⟨h1, rfl⟩
    · exact (hq.1 h1).1
    · exact (hq.2.1 h1).1
  refine ⟨mc_ev (gA (mcQ (l, ps, a, S, T)) G) (fun n u => mc_ev (gA (mcQ (l, ps, a, S, T)) G) (fun _ _ => none) (byB l) 7600 (P n) u) (byB l) 8000 n, ?_⟩
  rw [← and_assoc]
  refine ⟨?_, fun u => ev_bits hN (fun n x hn hc => Nat.lt_trans (hch n x hn hc) hn) (fun n hn e u => ?_) 8000 n u hX.1⟩
  · have key : ∀ post : xm_Po, Bg sc d pp 1 (gMW (pW (l, ps, a, S, T) B) G) H0 post n (mc_ev (gA (mcQ (l, ps, a, S, T)) G) (fun n u => mc_ev (gA (mcQ (l, ps, a, S, T)) G) (fun _ _ => none) (byB l) 7600 (P n) u) (byB l) 8000 n) ∧ Lr (gMW (pW (l, ps, a, S, T) B) G) n (mc_ev (gA (mcQ (l, ps, a, S, T)) G) (fun n u => mc_ev (gA (mcQ (l, ps, a, S, T)) G) (fun _ _ => none) (byB l) 7600 (P n) u) (byB l) 8000 n) := by
      intro post
      refine bg_all (X := pX ps B) hpp hr (fun n x hn hc' => ?_) (fun n hn => ?_) (fun n hn => ?_) (fun n hn => ?_) (fun n hn e => ?_) 8000 n hX (by have := hX.1; rw [(gM_lo (show n < 400 by omega)).2.2.2.2.2.2]; omega)
      · have hn4 : n < 400 := by have := hn.1; omega
        unfold mc_ch at hc'
        rw [(gA_lo hn4).1, (gA_lo hn4).2.1, (gA_lo hn4).2.2.1] at hc'
        obtain ⟨h1, h2⟩ := pX_ch ho hG hb hn hc'
        refine ⟨h1, ?_⟩
        rw [(gM_lo hn4).2.2.2.2.2.2, (gM_lo (show x < 400 by omega)).2.2.2.2.2.2]
        omega
      · have hn4 : n < 400 := by have := hn.1; omega
        have := cd_prog hc ho hG hk hl hN hn.1
        unfold cdN at this ⊢
        rw [(gA_lo hn4).1, (gA_lo hn4).2.1, (gA_lo hn4).2.2.1, (gA_lo hn4).2.2.2.1, (gA_lo hn4).2.2.2.2]
        exact this
      · have hn4 : n < 400 := by have := hn.1; omega
        have hn1 := hn.1
        exact wy_lo hn4 (fun h => by have := hch n _ hn1 (Or.inl ⟨h, rfl⟩); omega) (fun h => by have := hch n _ hn1 (Or.inr ⟨h, rfl⟩); omega) (pX_wy ho hG hk hl hN hb hn)
      · have hn4 : n < 400 := by have := hn.1; omega
        rw [(gA_lo hn4).1]
        exact (mqW_of ho hG hn.1).2.2.2.2.2.2.2.2.2.2.2.2.2
      · have hn4 : n < 400 := by have := hn.1; omega
        have hcd := cd_prog hc ho hG hk hl hN hn.1
        rw [(gA_lo hn4).1] at e
        obtain ⟨t1, t2, t3, t4⟩ := (mqW_of ho hG hn.1).2.2.2.2.2.2.2.2.2.2.2.2.1 e
        have h6 : pNu ps n < 168 := Nat.lt_succ_of_le (ho n hn.1).2.2.2.2.2.1
        obtain ⟨p1', p2'⟩ := hP n hn.1 e
        obtain ⟨F', v, hs⟩ := p2'
        obtain ⟨bx, lx⟩ := bg_def (sc := sc) (d := d) (df := 1) (post := post) (Q := mcQ (l, ps, a, S, T)) (W := pW (l, ps, a, S, T) B) (jf := fun _ _ => none) hpp hr hI (P n) v.1 v.2.1
        obtain ⟨g1, g2, g3, g4, g5, g6, g7⟩ := gM_lo (W := pW (l, ps, a, S, T) B) (G := G) hn4
        have q1 := qle_tr v.2.2.2.2.2 (qj_le (by omega) (by omega) (by omega))
        have q2 : (g_q (G (P n))).2.1 ≤ 40 := q1.2.1
        have q3 : (g_q (G (P n))).2.2 ≤ 4000 := q1.2.2
        replace q1 : (g_q (G (P n))).1 ≤ 199999 := q1.1
        have hv4 := v.1
        have e1 : w_s (gMW (pW (l, ps, a, S, T) B) G) (P n) = ty_w (S n) := by rw [gM_s hv4, v.2.2.1, js_w h6, t3]
        have e2 : w_t (gMW (pW (l, ps, a, S, T) B) G) (P n) = ty_w (T n) := by rw [gM_t hv4, v.2.2.2.1, jt_w h6, t4]
        have hB1 : 1 ≤ B n := by
          have h3 := (hb n hn.1).2.2
          rw [if_neg (by show ¬ pC ps n = 11; rw [show pC ps n = 12 from e]; decide)] at h3
          rw [h3]
          generalize (if pC ps n = 1 then max (gO B (p1 ps n)) (gO B (p2 ps n)) else gO B (p1 ps n) + gO B (p2 ps n)) = z
          omega
        have hcd' : cdN H0 (gA (mcQ (l, ps, a, S, T)) G) n := by
          unfold cdN at hcd ⊢
          rw [(gA_lo hn4).1, (gA_lo hn4).2.1, (gA_lo hn4).2.2.1, (gA_lo hn4).2.2.2.1, (gA_lo hn4).2.2.2.2]
          exact hcd
        have a3 : 1 + w_b (gMW (pW (l, ps, a, S, T) B) G) (P n) ≤ w_b (gMW (pW (l, ps, a, S, T) B) G) n := by
          rw [gM_b hv4, g3]
          show _ ≤ 200000 * B n + _
          omega
        have a4 : w_d (gMW (pW (l, ps, a, S, T) B) G) (P n) ≤ w_d (gMW (pW (l, ps, a, S, T) B) G) n := by
          rw [gM_d hv4, g4]
          show _ ≤ n + 40
          omega
        have a5 : w_c (gMW (pW (l, ps, a, S, T) B) G) (P n) ≤ w_c (gMW (pW (l, ps, a, S, T) B) G) n := by
          rw [gM_c hv4, g5]
          show _ ≤ 2048 * (n + 1) + 4000
          omega
        have a6 : w_f (gMW (pW (l, ps, a, S, T) B) G) (P n) ≤ w_f (gMW (pW (l, ps, a, S, T) B) G) n := by
          rw [gM_f hv4, g6]
          show _ ≤ n + 4001
          omega
        refine ⟨bg_jet1 hcd' (by rw [(gA_lo hn4).1]; exact e) (by rw [(gA_lo hn4).2.2.2.1]; exact t1) h6 p1' bx lx (by rw [e1, g1]; exact Nat.le_refl _) (by rw [e2, g2]; rfl) a3 a4 a5 a6 (by rw [gM_r hv4, g7]; have := v.2.1; omega), fun u u' hu => ?_, fun u a' s' c' g' hh => ?_⟩
        · have := lx.1 u u' (fun i hi => hu i (by rw [e1] at hi; rw [g1]; exact hi))
          simp only [this]
        · obtain ⟨s2, c2, gg2, ee⟩ := gJ_ev (Q := mcQ (l, ps, a, S, T)) (jf := fun _ _ => none) (wb := byB l) hIw hc8 h6 ⟨F', v, hs⟩ u
          have l2 := lx.2 u _ _ _ _ ee
          simp only [ee, Option.some.injEq, Prod.mk.injEq] at hh
          obtain ⟨rfl, _, rfl, rfl⟩ := hh
          exact ⟨by rw [l2.1, e2, g2]; rfl, Nat.le_trans l2.2.1 a5, Nat.le_trans l2.2.2 a6⟩
    exact ⟨fun post => (key post).1, (key (fun _ _ => True)).2⟩
  · obtain ⟨t1, t2, t3, t4⟩ := (mqW_of ho hG hn).2.2.2.2.2.2.2.2.2.2.2.2.1 e
    have h6 : pNu ps n < 168 := Nat.lt_succ_of_le (ho n hn).2.2.2.2.2.1
    obtain ⟨s2, c2, gg2, ee⟩ := gJ_ev (Q := mcQ (l, ps, a, S, T)) (jf := fun _ _ => none) (wb := byB l) hIw hc8 h6 (hP n hn e).2 u
    simp only [ee, jf0, t1]
    rfl
end PB
