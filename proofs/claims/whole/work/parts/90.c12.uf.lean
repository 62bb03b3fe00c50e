/-! ===== roots by links, with ranks; how many there are ===== -/
def cn (p : Nat → Bool) : Nat → Nat
  | 0 => 0
  | c + 1 => cn p c + (p c).toNat
theorem cn_le (p : Nat → Bool) : ∀ c, cn p c ≤ c
  | 0 => Nat.le_refl _
  | c + 1 => by
    have := cn_le p c
    unfold cn
    cases p c <;> simp <;> omega
theorem cn_congr {p q : Nat → Bool} : ∀ {c : Nat}, (∀ t, t < c → p t = q t) → cn p c = cn q c
  | 0, _ => rfl
  | c + 1, h => by rw [cn, cn, cn_congr (c := c) (fun t ht => h t (by omega)), h c (by omega)]
theorem cn_del {p q : Nat → Bool} {a : Nat} (hp : p a = true) (hq : q a = false) (h : ∀ t, t ≠ a → q t = p t) : ∀ {c : Nat}, a < c → cn q c + 1 = cn p c
  | c + 1, hc => by
    unfold cn
    by_cases e : a = c
    · subst e
      rw [hp, hq, cn_congr (p := q) (q := p) (fun t ht => h t (by omega))]
      rfl
    · have := cn_del hp hq h (c := c) (by omega)
      rw [h c (fun z => e z.symm)]
      omega
def uf_ok (c : Nat) (u rt dd : Nat → Nat) (m : Nat) : Prop := ∀ t, t < c → u t < c ∧ rt t < c ∧ rt (rt t) = rt t ∧ rt (u t) = rt t ∧ (u t = t ↔ rt t = t) ∧ dd t ≤ m ∧ (u t ≠ t → dd t < dd (u t))
def nr (c : Nat) (rt : Nat → Nat) : Nat := cn (fun t => rt t == t) c
def updN (f : Nat → Nat) (k x : Nat) : Nat → Nat := fun j => if j = k then x else f j
theorem updN_s {f : Nat → Nat} {k x : Nat} : updN f k x k = x := by simp [updN]
theorem updN_o {f : Nat → Nat} {k x j : Nat} (h : j ≠ k) : updN f k x j = f j := by simp [updN, h]
theorem uf_half {c : Nat} {u rt dd : Nat → Nat} {m t : Nat} (h : uf_ok c u rt dd m) (ht : t < c) (hne : u t ≠ t) : uf_ok c (updN u t (u (u t))) rt dd m := by
  intro s hs
  obtain ⟨a1, a2, a3, a4, a5, a6, a7⟩ := h s hs
  by_cases e : s = t
  · subst e
    obtain ⟨b1, b2, b3, b4, b5, b6, b7⟩ := h (u s) a1
    rw [updN_s]
    have h7 := a7 hne
    have h8 : dd (u s) ≤ dd (u (u s)) := by
      by_cases e2 : u (u s) = u s
      · rw [e2]; exact Nat.le_refl _
      · exact Nat.le_of_lt (b7 e2)
    have h9 : u (u s) ≠ s := fun z => by
      rw [z] at h8
      omega
    exact ⟨b1, a2, a3, by rw [b4, a4], ⟨fun z => absurd z h9, fun z => absurd (a5.mpr z) hne⟩, a6, fun _ => by omega⟩
  · rw [updN_o e]
    exact ⟨a1, a2, a3, a4, a5, a6, a7⟩
theorem uf_link {c : Nat} {u rt dd : Nat → Nat} {m a b : Nat} (h : uf_ok c u rt dd m) (ha : a < c) (hb : b < c) (haa : rt a = a) (hbb : rt b = b) (hab : a ≠ b) : uf_ok c (updN u a b) (ty_link rt a b) (updN dd b (max (dd b) (dd a + 1))) (m + 1) := by
  intro t ht
  obtain ⟨a1, a2, a3, a4, a5, a6, a7⟩ := h t ht
  have hba := (h b hb).2.2.2.2.1.mpr hbb
  have hda := (h a ha).2.2.2.2.2.1
  have hlk : ∀ s, ty_link rt a b s = if rt s = a then b else rt s := fun _ => rfl
  have hlt : ty_link rt a b t < c := by
    rw [hlk]; split
    · exact hb
    · exact a2
  have hll : ty_link rt a b (ty_link rt a b t) = ty_link rt a b t := by
    rw [hlk t]
    split
    · rw [hlk, hbb, if_neg (fun z => hab z.symm)]
    · rename_i q
      rw [hlk, a3, if_neg q]
  have hdd : updN dd b (max (dd b) (dd a + 1)) t ≤ m + 1 := by
    by_cases e : t = b
    · subst e
      rw [updN_s]; omega
    · rw [updN_o e]; omega
  by_cases e : t = a
  · subst e
    rw [updN_s]
    refine ⟨hb, hlt, hll, ?_, ⟨fun z => absurd z.symm hab, fun z => ?_⟩, hdd, fun _ => ?_⟩
    · rw [hlk b, hbb, if_neg (fun z => hab z.symm), hlk t, haa, if_pos rfl]
    · rw [hlk, haa, if_pos rfl] at z
      exact absurd z.symm hab
    · rw [updN_s, updN_o hab]; omega
  · rw [updN_o e]
    refine ⟨a1, hlt, hll, by rw [hlk (u t), hlk t, a4], ?_, hdd, fun hne => ?_⟩
    · rw [a5, ty_link_rt hbb hab]
      exact ⟨fun z => ⟨z, e⟩, fun z => z.1⟩
    · have h7 := a7 hne
      have htb : t ≠ b := fun z => hne (by rw [z]; exact hba)
      rw [updN_o htb]
      by_cases e2 : u t = b
      · rw [e2, updN_s]
        rw [e2] at h7
        omega
      · rw [updN_o e2]; exact h7
theorem nr_link {c : Nat} {rt : Nat → Nat} {a b : Nat} (ha : a < c) (haa : rt a = a) (hbb : rt b = b) (hab : a ≠ b) : nr c (ty_link rt a b) + 1 = nr c rt := by
  unfold nr
  refine cn_del (a := a) (by simpa using haa) ?_ (fun t ht => ?_) ha
  · have := mt (ty_link_rt (t := a) hbb hab).mp (fun z => z.2 rfl)
    simpa using this
  · have := ty_link_rt (t := t) hbb hab
    by_cases e : rt t = t
    · rw [show (ty_link rt a b t == t) = true by simpa using this.mpr ⟨e, ht⟩, show (rt t == t) = true by simpa using e]
    · rw [show (ty_link rt a b t == t) = false by simpa using mt this.mp (fun z => e z.1), show (rt t == t) = false by simpa using e]
theorem uf_G {c : Nat} {k l r u rt dd : Nat → Nat} {m : Nat} (h : uf_ok c u rt dd m) (hk : ∀ t, t < c → k t < 4 ∧ (2 ≤ k t → l t < c ∧ r t < c)) : ty_G c k l r rt := ⟨fun t ht => ⟨(h t ht).2.1, (h t ht).2.2.1⟩, hk⟩
