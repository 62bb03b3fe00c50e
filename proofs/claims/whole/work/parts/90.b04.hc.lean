/-! ===== chains of a table of heads ===== -/
def hc_lk (nx : Nat → Int32) : Int32 → List Nat → Prop
  | x, [] => x = -1
  | x, i :: cs => x = nI i ∧ hc_lk nx (nx i) cs
def hc_ok (hd nx : Nat → Int32) (sl : Nat → Nat) (P : Nat → Prop) (H : Nat) : Prop := ∀ s, s < H → ∃ cs, hc_lk nx (hd s) cs ∧ cs.Nodup ∧ ∀ i, i ∈ cs ↔ (P i ∧ sl i = s)
theorem hc_lk_upd {nx : Nat → Int32} {n : Nat} {v : Int32} : ∀ (cs : List Nat) (x : Int32), n ∉ cs → hc_lk nx x cs → hc_lk (upd nx n v) x cs
  | [], _, _, h => h
  | i :: cs, x, hn, h => by
    have h1 : i ≠ n := fun z => hn (by rw [z]; simp)
    refine ⟨h.1, ?_⟩
    rw [show upd nx n v i = nx i by simp [upd, h1]]
    exact hc_lk_upd cs _ (fun z => hn (List.mem_cons_of_mem _ z)) h.2
theorem hc_0 {hd nx : Nat → Int32} {sl : Nat → Nat} {P : Nat → Prop} {H : Nat} (h : ∀ s, s < H → hd s = -1) (hP : ∀ i, ¬ P i) : hc_ok hd nx sl P H :=
  fun s hs => ⟨[], h s hs, List.nodup_nil, fun i => ⟨fun q => (by cases q), fun q => absurd q.1 (hP i)⟩⟩
theorem hc_ins {hd nx : Nat → Int32} {sl sl' : Nat → Nat} {P P' : Nat → Prop} {H s0 n : Nat} (h : hc_ok hd nx sl P H) (hn : ¬ P n) (hsl : ∀ i, P i → sl' i = sl i) (h0 : sl' n = s0) (hP : ∀ i, P' i ↔ (P i ∨ i = n)) : hc_ok (upd hd s0 (nI n)) (upd nx n (hd s0)) sl' P' H := by
  intro s hs
  obtain ⟨cs, c1, c2, c3⟩ := h s hs
  have hnc : n ∉ cs := fun z => hn ((c3 n).mp z).1
  by_cases e : s = s0
  · subst e
    refine ⟨n :: cs, ⟨by simp [upd], ?_⟩, List.nodup_cons.mpr ⟨hnc, c2⟩, fun i => ?_⟩
    · rw [show upd nx n (hd s) n = hd s by simp [upd]]
      exact hc_lk_upd cs _ hnc c1
    · rw [List.mem_cons, c3 i, hP]
      constructor
      · rintro (rfl | q)
        · exact ⟨Or.inr rfl, h0⟩
        · exact ⟨Or.inl q.1, by rw [hsl i q.1]; exact q.2⟩
      · rintro ⟨q1 | q1, q2⟩
        · exact Or.inr ⟨q1, by rw [← hsl i q1]; exact q2⟩
        · exact Or.inl q1
  · refine ⟨cs, ?_, c2, fun i => ?_⟩
    · rw [show upd hd s0 (nI n) s = hd s by simp [upd, e]]
      exact hc_lk_upd cs _ hnc c1
    · rw [c3 i, hP]
      constructor
      · rintro ⟨q1, q2⟩
        exact ⟨Or.inl q1, by rw [hsl i q1]; exact q2⟩
      · rintro ⟨q1 | q1, q2⟩
        · exact ⟨q1, by rw [← hsl i q1]; exact q2⟩
        · exact absurd (q2.symm.trans (by rw [q1]; exact h0)) e
theorem hc_len {cs : List Nat} {P : Nat → Prop} {N : Nat} (h : cs.Nodup) (hP : ∀ i ∈ cs, i < N) : cs.length ≤ N := nd_len N cs h hP
/-- a mask keeps numbers small -/
theorem msk_lt {k : Nat} (hk : k < 31) (x : Int32) : ∃ s, s < 2 ^ k ∧ x &&& nI (2 ^ k - 1) = nI s := by
  refine ⟨x.toBitVec.toNat % 2 ^ k, Nat.mod_lt _ (Nat.two_pow_pos k), ?_⟩
  apply b_ext
  intro i hi
  rw [b_and, bt_nI _ hi, bt_nI _ hi]
  rw [Nat.testBit_mod_two_pow, Nat.testBit_two_pow_sub_one]
  by_cases h : i < k
  · simp only [h, decide_true, Bool.and_true, Bool.true_and]
    rfl
  · simp [h]
def msk (k : Nat) (x : Int32) : Nat := x.toBitVec.toNat % 2 ^ k
theorem msk_eq {k : Nat} (hk : k < 31) (x : Int32) : x &&& nI (2 ^ k - 1) = nI (msk k x) := by
  apply b_ext
  intro i hi
  rw [b_and, bt_nI _ hi, bt_nI _ hi]
  unfold msk
  rw [Nat.testBit_mod_two_pow, Nat.testBit_two_pow_sub_one]
  by_cases h : i < k
  · simp only [h, decide_true, Bool.and_true, Bool.true_and]
    rfl
  · simp [h]
theorem msk_l (k : Nat) (x : Int32) : msk k x < 2 ^ k := Nat.mod_lt _ (Nat.two_pow_pos k)
