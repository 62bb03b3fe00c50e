/-! ===== Order.merge, whole ===== -/
theorem hc_congr {hd nx : Nat → Int32} {sl sl' : Nat → Nat} {P P' : Nat → Prop} {H : Nat} (h : hc_ok hd nx sl P H) (hP : ∀ i, P' i ↔ P i) (hs : ∀ i, P i → sl' i = sl i) : hc_ok hd nx sl' P' H := by
  intro s hs'
  obtain ⟨cs, c1, c2, c3⟩ := h s hs'
  refine ⟨cs, c1, c2, fun i => ?_⟩
  rw [c3 i, hP i]
  constructor
  · rintro ⟨a, b⟩; exact ⟨a, by rw [hs i a]; exact b⟩
  · rintro ⟨a, b⟩; exact ⟨a, by rw [← hs i a]; exact b⟩
section MG
variable {sc : xm_Sc} {d pp N : Nat} {cd hx : Nat → Nat} {c1 c2 : Nat → Option Nat} {L : List Nat} {h : xm_H} {post : xm_Po}
theorem mgS_upd {tw : Nat → Nat} {n v m : Nat} (hm : ∀ x, (c1 m = some x ∨ c2 m = some x) → x ≠ n) : mgS h pp cd hx c1 c2 (updN tw n v) m = mgS h pp cd hx c1 c2 tw m := by
  unfold mgS
  rw [opt_map_upd (fun x hx => hm x (Or.inl hx)), opt_map_upd (fun x hx => hm x (Or.inr hx))]
theorem mgS_l {tw : Nat → Nat} {m : Nat} : mgS h pp cd hx c1 c2 tw m < 1024 := by
  unfold mgS
  split
  · exact msk_l 10 _
  · exact msk_l 10 _
/-- the node with its stand-in is done -/
theorem mg_don {A : List Nat} {n v : Nat} {tw : Nat → Nat} {h' h2 h4 : xm_H} (hN : N ≤ 2000) (hn : n < N) (hpp : pp = 52 ∨ pp = 77) (hnA : n ∉ A) (hch : ∀ m ∈ A ++ [n], ∀ x, (c1 m = some x ∨ c2 m = some x) → x ∈ A) (hJ : mgJ h h' pp N cd hx c1 c2 A tw) (f2 : Fr [pp + 2, pp + 3] [] h' h2) (q1 : h2.1 (pp + 2) n = oI ((c1 n).map tw)) (q2 : h2.1 (pp + 3) n = oI ((c2 n).map tw)) (q3 : ∀ m, m ≠ n → h2.1 (pp + 2) m = h'.1 (pp + 2) m ∧ h2.1 (pp + 3) m = h'.1 (pp + 3) m)
    (hf : Fr [12, 13, 14] [] h2 h4) (e12 : h4.1 12 n = nI v ∧ ∀ m, m ≠ n → h4.1 12 m = h2.1 12 m) (hv : (v = n ∧ ∀ m ∈ A, tw m = m → ¬ mgK h pp cd hx c1 c2 tw m n) ∨ (v ∈ A ∧ tw v = v ∧ mgK h pp cd hx c1 c2 tw v n)) (hhc : hc_ok (h4.1 14) (h4.1 13) (mgS h pp cd hx c1 c2 (updN tw n v)) (fun m => m ∈ A ++ [n] ∧ updN tw n v m = m ∧ cd m ≠ 10) 1024) :
    mgJ h h4 pp N cd hx c1 c2 (A ++ [n]) (updN tw n v) := by
  obtain ⟨j1, j2, j3, j4, j5, j6⟩ := hJ
  have hchn : ∀ m ∈ A ++ [n], ∀ x, (c1 m = some x ∨ c2 m = some x) → x ≠ n := fun m hm x hx z => hnA (by rw [← z]; exact hch m hm x hx)
  have F2 : XF h2 := Fr_XF j1 f2 (by decide +kernel)
  have r2 : h4.1 (pp + 2) = h2.1 (pp + 2) := hf.1 _ (by simp <;> omega)
  have r3 : h4.1 (pp + 3) = h2.1 (pp + 3) := hf.1 _ (by simp <;> omega)
  refine ⟨Fr_XF F2 hf (by decide +kernel), Fr_tr (Fr_tr j2 f2 (by simp [mgR2]) (by simp)) hf (by simp [mgR2]) (by simp), fun m hm => ⟨fun hmA => ?_, fun hmA => ?_⟩, fun m hm => ?_, twR_snoc j5 hnA (fun a b ha hb => smK_upd (hchn a ha) (hchn b hb)) hv, hhc⟩
  · rw [r2, r3, opt_map_upd (fun x hx => hchn m hmA x (Or.inl hx)), opt_map_upd (fun x hx => hchn m hmA x (Or.inr hx))]
    by_cases e : m = n
    · subst e
      exact ⟨q1, q2⟩
    · rw [(q3 m e).1, (q3 m e).2]
      refine ((j3 m hm).1 ?_)
      rcases List.mem_append.mp hmA with z | z
      · exact z
      · exact absurd (List.mem_singleton.mp z) e
  · have e : m ≠ n := fun z => hmA (by rw [z]; simp)
    rw [r2, r3, (q3 m e).1, (q3 m e).2]
    exact (j3 m hm).2 (fun z => hmA (List.mem_append_left _ z))
  · by_cases e : m = n
    · subst e
      rw [updN_s]
      refine ⟨e12.1, ?_⟩
      rcases hv with ⟨v1, _⟩ | ⟨v1, _⟩
      · rw [v1]; simp
      · exact List.mem_append_left _ v1
    · have hmA : m ∈ A := by
        rcases List.mem_append.mp hm with z | z
        · exact z
        · exact absurd (List.mem_singleton.mp z) e
      rw [updN_o e, e12.2 m e, f2.1 12 (by simp <;> omega)]
      exact ⟨(j4 m hmA).1, List.mem_append_left _ (j4 m hmA).2⟩
/-- the node's stand-in is looked for -/
theorem mg_100 {A : List Nat} {n : Nat} {tw : Nat → Nat} {h' h2 : xm_H} (hN : N ≤ 2000) (hpp : pp = 52 ∨ pp = 77) (hD : mgD h pp N cd hx c1 c2) (hn : n < N) (hAN : ∀ m ∈ A, m < N) (hnA : n ∉ A) (hch : ∀ m ∈ A ++ [n], ∀ x, (c1 m = some x ∨ c2 m = some x) → x ∈ A) (hJ : mgJ h h' pp N cd hx c1 c2 A tw) (f2 : Fr [pp + 2, pp + 3] [] h' h2) (q1 : h2.1 (pp + 2) n = oI ((c1 n).map tw)) (q2 : h2.1 (pp + 3) n = oI ((c2 n).map tw)) (q3 : ∀ m, m ≠ n → h2.1 (pp + 2) m = h'.1 (pp + 2) m ∧ h2.1 (pp + 3) m = h'.1 (pp + 3) m)
    (hp : ∀ h3 v, Fr [13, 14] [] h2 h3 → v < 2000 → mgJ h (xm_si h3 12 n (nI v)) pp N cd hx c1 c2 (A ++ [n]) (updN tw n v) → post (some (.int (nI v))) h3) : xm_T (XE sc) (d + 2) 96 [.ref 7, .ref pp, .int (nI n)] h2 post := by
  have hJ0 := hJ
  obtain ⟨j1, j2, j3, j4, j5, j6⟩ := hJ0
  have F2 : XF h2 := Fr_XF j1 f2 (by decide +kernel)
  have hchn : ∀ m ∈ A ++ [n], ∀ x, (c1 m = some x ∨ c2 m = some x) → x ≠ n := fun m hm x hx z => hnA (by rw [← z]; exact hch m hm x hx)
  have fAll : Fr (mgR2 pp) [] h h2 := Fr_tr j2 f2 (by simp [mgR2]) (by simp)
  have code : ∀ m, m < N → h2.1 (pp + 1) m = nI (cd m) ∧ cd m ≤ 12 := fun m hm => ⟨by rw [fAll.1 (pp + 1) (by simp [mgR2] <;> omega)]; exact (hD.1 m hm).1, (hD.1 m hm).2.1⟩
  have r4 : h2.1 (pp + 4) = h.1 (pp + 4) := fAll.1 _ (by simp [mgR2] <;> omega)
  have r6 : h2.1 (pp + 6) = h.1 (pp + 6) := fAll.1 _ (by simp [mgR2] <;> omega)
  have r7 : h2.1 (pp + 7) = h.1 (pp + 7) := fAll.1 _ (by simp [mgR2] <;> omega)
  have r11 : h2.1 (pp + 11) = h.1 (pp + 11) := fAll.1 _ (by simp [mgR2] <;> omega)
  obtain ⟨n1, n2⟩ := code n hn
  have setOf : ∀ h3 v, Fr [13, 14] [] h2 h3 → Fr [12, 13, 14] [] h2 (xm_si h3 12 n (nI v)) ∧ ((xm_si h3 12 n (nI v)).1 12 n = nI v ∧ ∀ m, m ≠ n → (xm_si h3 12 n (nI v)).1 12 m = h2.1 12 m) := by
    intro h3 v f3
    refine ⟨Fr_si (Fr_mo f3 (by simp) (by simp)) (by simp), by rw [xs_same, upd_s], fun m hm => by rw [xs_same, upd_o hm, f3.1 12 (by simp)]⟩
  by_cases hw : cd n = 10
  · rw [hw] at n1
    refine sp_twinW F2 hpp (by omega) n1 ?_
    obtain ⟨s1, s2⟩ := setOf h2 n Fr_rf
    refine hp h2 n Fr_rf (by omega) (mg_don hN hn hpp hnA hch hJ f2 q1 q2 q3 s1 s2 (Or.inl ⟨rfl, fun m hm hmt z => z.2.1 (z.1.trans hw)⟩) ?_)
    rw [xq_so (by omega), xq_so (by omega), f2.1 14 (by simp <;> omega), f2.1 13 (by simp <;> omega)]
    refine hc_congr j6 (fun i => ?_) (fun i hi => mgS_upd (hchn i (List.mem_append_left _ hi.1)))
    constructor
    · rintro ⟨a, b, e⟩
      have hin : i ≠ n := fun z => e (by rw [z]; exact hw)
      rw [updN_o hin] at b
      rcases List.mem_append.mp a with z | z
      · exact ⟨z, b, e⟩
      · exact absurd (List.mem_singleton.mp z) hin
    · rintro ⟨a, b, e⟩
      have hin : i ≠ n := fun z => hnA (by rw [← z]; exact a)
      exact ⟨List.mem_append_left _ a, by rw [updN_o hin]; exact b, e⟩
  · have rowP : ∀ m, m ∈ A → h2.1 (pp + 2) m = oI ((c1 m).map tw) ∧ h2.1 (pp + 3) m = oI ((c2 m).map tw) := by
      intro m hm
      have hmn : m ≠ n := fun z => hnA (by rw [← z]; exact hm)
      rw [(q3 m hmn).1, (q3 m hmn).2]
      exact (j3 m (hAN m hm)).1 hm
    have bnd : ∀ m ∈ A ++ [n], (∀ x, (c1 m).map tw = some x → x < 2147483648) ∧ ∀ x, (c2 m).map tw = some x → x < 2147483648 := by
      intro m hm
      refine ⟨fun x hx => ?_, fun x hx => ?_⟩
      · cases e : c1 m with
        | none => rw [e] at hx; cases hx
        | some y =>
          rw [e] at hx
          cases hx
          have := hAN _ (j4 y (hch m hm y (Or.inl e))).2
          omega
      · cases e : c2 m with
        | none => rw [e] at hx; cases hx
        | some y =>
          rw [e] at hx
          cases hx
          have := hAN _ (j4 y (hch m hm y (Or.inr e))).2
          omega
    have hnA1 : n ∈ A ++ [n] := by simp
    refine sp_twinOf (cd := cd) (P := fun m => m ∈ A ∧ tw m = m ∧ cd m ≠ 10) (sm := fun m => mgK h pp cd hx c1 c2 tw m n) (sl := mgS h pp cd hx c1 c2 tw) (s := mgS h pp cd hx c1 c2 tw n) F2 hpp (by omega) n1 n2 hw (by rw [f2.1 14 (by simp <;> omega), f2.1 13 (by simp <;> omega)]; exact j6) (fun m hm => by have := hAN m hm.1; omega) (fun z => hnA z.1) mgS_l (fun m hm hsm => ?_) (fun post' hp' => ?_) (fun m hm post' g1 g0 => ?_) (fun m hm hsm => ?_) (fun hno => ?_)
    · obtain ⟨k1, k2, k3, k4⟩ := hsm
      unfold mgS
      rw [k1]
      by_cases q : cd n = 11
      · rw [if_pos q, if_pos q, k3 (k1.trans q) 0 (by decide)]
      · obtain ⟨m1, m2, m3, m4, m5⟩ := k4 (by rw [k1]; exact q)
        rw [if_neg q, if_neg q, m1, m2, m3, m4, m5]
    · by_cases q : cd n = 11
      · obtain ⟨w1, w2⟩ := hD.2 n hn q
        unfold mgS at hp'
        rw [if_pos q] at hp'
        rw [q] at n1
        refine sp_slotH (x := 8 * hx n) F2 hpp (by omega) n1 (by rw [r4]; exact w1) (by omega) ?_
        rw [r11]
        exact hp'
      · unfold mgS at hp'
        rw [if_neg q] at hp'
        refine sp_slotN F2 hpp (by omega) n1 n2 q ?_
        rw [q1, q2, r4, r6, r7]
        exact hp'
    · obtain ⟨m1, m2⟩ := code m (hAN m hm.1)
      by_cases q : cd n = 11
      · obtain ⟨w1, w2⟩ := hD.2 n hn q
        rw [q] at n1
        refine sp_areSameH (cd := cd) (x := 8 * hx n) (y := 8 * hx m) F2 hpp (by omega) (by have := hAN m hm.1; omega) n1 m1 m2 (by rw [r4]; exact w1) w2 (fun z => by rw [r4]; exact hD.2 m (hAN m hm.1) z) (fun z1 z2 => g1 ?_) (fun z => g0 (fun y => z ⟨y.1.trans q, fun k hk => ?_⟩))
        · refine ⟨z1.trans q.symm, hm.2.2, fun _ k hk => ?_, fun y => absurd z1 y⟩
          have := z2 k hk
          rw [r11] at this
          exact this.symm
        · rw [r11]
          exact (y.2.2.1 (y.1.trans q) k hk).symm
      · refine sp_areSameN (cd := cd) F2 hpp (by omega) (by have := hAN m hm.1; omega) n1 m1 n2 m2 q (fun z1 z2 z3 z4 z5 z6 => g1 ?_) (fun z => g0 (fun y => z ?_))
        · refine ⟨z1.symm, hm.2.2, fun y => absurd (z1.trans y) q, fun _ => ⟨?_, ?_, ?_, ?_, ?_⟩⟩
          · rw [q1, (rowP m hm.1).1] at z2
            exact ((oI_inj (bnd n hnA1).1 (bnd m (List.mem_append_left _ hm.1)).1).mp z2).symm
          · rw [q2, (rowP m hm.1).2] at z3
            exact ((oI_inj (bnd n hnA1).2 (bnd m (List.mem_append_left _ hm.1)).2).mp z3).symm
          · rw [r4] at z4; exact z4.symm
          · rw [r6] at z5; exact z5.symm
          · rw [r7] at z6; exact z6.symm
        · obtain ⟨k1, k2, k3, k4⟩ := y
          obtain ⟨m1', m2', m3', m4', m5'⟩ := k4 (by rw [k1]; exact q)
          refine ⟨k1.symm, ?_, ?_, ?_, ?_, ?_⟩
          · rw [q1, (rowP m hm.1).1, m1']
          · rw [q2, (rowP m hm.1).2, m2']
          · rw [r4]; exact m3'.symm
          · rw [r6]; exact m4'.symm
          · rw [r7]; exact m5'.symm
    · obtain ⟨s1, s2⟩ := setOf h2 m Fr_rf
      have hmn : m ≠ n := fun z => hnA (by rw [← z]; exact hm.1)
      refine hp h2 m Fr_rf (by have := hAN m hm.1; omega) (mg_don hN hn hpp hnA hch hJ f2 q1 q2 q3 s1 s2 (Or.inr ⟨hm.1, hm.2.1, hsm⟩) ?_)
      rw [xq_so (by omega), xq_so (by omega), f2.1 14 (by simp <;> omega), f2.1 13 (by simp <;> omega)]
      refine hc_congr j6 (fun i => ?_) (fun i hi => mgS_upd (hchn i (List.mem_append_left _ hi.1)))
      constructor
      · rintro ⟨a, b, e⟩
        have hin : i ≠ n := fun z => by rw [z, updN_s] at b; exact hmn b
        rw [updN_o hin] at b
        rcases List.mem_append.mp a with z | z
        · exact ⟨z, b, e⟩
        · exact absurd (List.mem_singleton.mp z) hin
      · rintro ⟨a, b, e⟩
        have hin : i ≠ n := fun z => hnA (by rw [← z]; exact a)
        exact ⟨List.mem_append_left _ a, by rw [updN_o hin]; exact b, e⟩
    · have f3 : Fr [13, 14] [] h2 (xm_si (xm_si h2 13 n (h2.1 14 (mgS h pp cd hx c1 c2 tw n))) 14 (mgS h pp cd hx c1 c2 tw n) (nI n)) := Fr_si (Fr_si Fr_rf (by simp)) (by simp)
      obtain ⟨s1, s2⟩ := setOf _ n f3
      refine hp _ n f3 (by omega) (mg_don hN hn hpp hnA hch hJ f2 q1 q2 q3 s1 s2 (Or.inl ⟨rfl, fun m hm hmt z => hno m ⟨hm, hmt, z.2.1⟩ z⟩) ?_)
      have e14 : (xm_si (xm_si (xm_si h2 13 n (h2.1 14 (mgS h pp cd hx c1 c2 tw n))) 14 (mgS h pp cd hx c1 c2 tw n) (nI n)) 12 n (nI n)).1 14 = upd (h'.1 14) (mgS h pp cd hx c1 c2 tw n) (nI n) := by
        rw [xq_so (by omega), xs_same, xq_so (by omega), f2.1 14 (by simp <;> omega)]
      have e13 : (xm_si (xm_si (xm_si h2 13 n (h2.1 14 (mgS h pp cd hx c1 c2 tw n))) 14 (mgS h pp cd hx c1 c2 tw n) (nI n)) 12 n (nI n)).1 13 = upd (h'.1 13) n (h'.1 14 (mgS h pp cd hx c1 c2 tw n)) := by
        rw [xq_so (by omega), xq_so (by omega), xs_same, f2.1 13 (by simp <;> omega), f2.1 14 (by simp <;> omega)]
      rw [e14, e13]
      refine hc_ins j6 (fun z => hnA z.1) (fun i hi => mgS_upd (hchn i (List.mem_append_left _ hi.1))) (mgS_upd (hchn n hnA1)) (fun i => ?_)
      constructor
      · rintro ⟨a, b, e⟩
        by_cases hin : i = n
        · exact Or.inr hin
        · rw [updN_o hin] at b
          rcases List.mem_append.mp a with z | z
          · exact Or.inl ⟨z, b, e⟩
          · exact absurd (List.mem_singleton.mp z) hin
      · rintro (⟨a, b, e⟩ | z)
        · have hin : i ≠ n := fun z => hnA (by rw [← z]; exact a)
          exact ⟨List.mem_append_left _ a, by rw [updN_o hin]; exact b, e⟩
        · rw [z]
          exact ⟨hnA1, updN_s, hw⟩
end MG
