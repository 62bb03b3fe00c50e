/-! ===== the law: what the helpers' steps need ===== -/
theorem lc_self (x : Int64) : lg_cmp x x = 0 := by
  unfold lg_cmp
  simp
theorem nI_i {p : Int32} {m n : Nat} (e : p = nI m) (e' : p = nI n) (h : m < 2147483648) (h' : n < 2147483648) : m = n := (nI_eq h h').mp (e.symm.trans e')
theorem cf_fd {p : Int32} {m : Nat} (z : p < nI 1 ∨ ¬ p ≤ nI 8) (e : p = nI m) (m1 : 1 ≤ m) (m8 : m ≤ 8) : False := by
  rw [e] at z
  rcases z with z | z
  · rw [nI_ltJ (by omega) (by omega)] at z; omega
  · rw [nI_leJ (by omega) (by omega)] at z; omega
theorem cf_fd2 {p : Int32} {m : Nat} (z : ¬ (nI 1 ≤ p ∧ p ≤ nI 8)) (e : p = nI m) (m1 : 1 ≤ m) (m8 : m ≤ 8) : False := by
  rw [e, nI_leJ (by omega) (by omega), nI_leJ (by omega) (by omega)] at z
  omega
theorem cf_fd3 {p : Int32} (z : p < nI 1 ∨ ¬ p ≤ nI 8) : ¬ (nI 1 ≤ p ∧ p ≤ nI 8) := by
  rintro ⟨a, b⟩
  rcases z with z | z
  · exact absurd a (Int32.not_le.mpr z)
  · exact z b
theorem cf_rn {st ce : Int32} {s c : Nat} (z : st < nI 1 ∨ ¬ nI 1 ≤ ce) (e2 : st = nI s) (e3 : ce = nI c) (e4 : 1 ≤ s) (e5 : s < 2147483648) (e6 : 1 ≤ c) (e7 : c < 2147483648) : False := by
  rw [e2, e3, nI_ltJ (by omega) (by omega), nI_leJ (by omega) (by omega)] at z
  omega
theorem cf_out {p : Int32} {k n : Nat} (z : ¬ (0 ≤ p ∧ p < nI n)) (e : p = nI k) (hk : k < n) (hn : n ≤ 8192) : False := by
  refine z ⟨?_, ?_⟩
  · rw [e]; exact Int32.not_lt.mp (by rw [nI_ltz (by omega)]; exact id)
  · rw [e, nI_ltJ (by omega) (by omega)]; exact hk
theorem ndW_u {o : Option PgD} {i w : Int32} {n k n' k' : Nat} (hN : pgN o ≤ 400) (e : ndW o i w n k) (e' : ndW o i w n' k') : n = n' ∧ k = k' := by
  obtain ⟨a1, a2, a3, a4⟩ := e
  obtain ⟨b1, b2, b3, b4⟩ := e'
  exact ⟨nI_i a1 b1 (by omega) (by omega), nI_i a3 b3 (by omega) (by omega)⟩
theorem ndA_u {o : Option PgD} {i : Int32} {n n' : Nat} (hN : pgN o ≤ 400) (e : ndA o i n) (e' : ndA o i n') : n = n' := nI_i e.1 e'.1 (by have := e.2; omega) (by have := e'.2; omega)
section LQ
variable {h : xm_H} {pp qq W : Nat} {t ou : List Nat} {o : Option PgD} {le pl rn : Int32} {uc uf us : Nat}
theorem xI_N (hx : xI h pp qq W t ou o le pl rn uc uf us) : pgN o ≤ 400 := (xPg_c hx.1.2.2.2.2.1).2
theorem bn_u {q : PgD} {C F B C' F' B' : Nat → Nat} (hx : xI h pp qq W t ou o le pl rn uc uf us) (e : o = some q) (b1 : bnd q.2.1 q.2.2.2.1 q.2.2.2.2 C F B q.2.1.length) (b2 : bnd q.2.1 q.2.2.2.1 q.2.2.2.2 C' F' B' q.2.1.length) : ∀ n, n < q.2.1.length → C n = C' n ∧ F n = F' n ∧ B n = B' n := by
  have hP := hx.1.2.2.2.2.1
  rw [e] at hP
  obtain ⟨l, ps, a, S, T⟩ := q
  obtain ⟨g1, g2, g3, g4, g5⟩ := LdG_0 hP.1.2.1
  exact bnd_uniq hP.1.1.1 (fun _ _ _ => ⟨rfl, rfl⟩) (fun n hn z x hx => (nb7 g2 hn (by omega)).1 x hx) b1 b2
theorem xI_1 {q : PgD} (hx : xI h pp qq W t ou o le pl rn uc uf us) (e : o = some q) : 1 ≤ q.2.1.length ∧ psOK q.2.1 ∧ pgN o = q.2.1.length := by
  have hP := hx.1.2.2.2.2.1
  rw [e] at hP
  obtain ⟨l, ps, a, S, T⟩ := q
  exact ⟨hP.1.1.2.1, hP.1.1.1, by rw [e]; rfl⟩
theorem rnX_u {q : PgD} {C F B C' F' B' : Nat → Nat} {s c : Nat} (hx : xI h pp qq W t ou o le pl rn uc uf us) (e : o = some q) (b1 : bnd q.2.1 q.2.2.2.1 q.2.2.2.2 C F B q.2.1.length) (b2 : bnd q.2.1 q.2.2.2.1 q.2.2.2.2 C' F' B' q.2.1.length) (hX : rnX q C B s c) : rnX q C' B' s c := by
  have h1 := (xI_1 hx e).1
  obtain ⟨u1, u2, u3⟩ := bn_u hx e b1 b2 (q.2.1.length - 1) (by omega)
  unfold rnX at *
  rw [← u1, ← u3]
  exact hX
theorem ndV_u {q : PgD} {C F B C' F' B' : Nat → Nat} {n k : Nat} (hu : C n = C' n ∧ F n = F' n ∧ B n = B' n) : ndV q C' F' B' n k = ndV q C F B n k := by
  unfold ndV
  rw [hu.1, hu.2.1, hu.2.2]
theorem lkV_u {C F B C' F' B' : Nat → Nat} {k a b uc' uf' us' : Nat} {le' rn' pl' : Int32} (hx : xI h pp qq W t ou o le pl rn uc uf us) (b1 : bnO o C F B) (b2 : bnO o C' F' B') : lkV o C' F' B' a b uc' uf' us' le' rn' pl' k = lkV o C F B a b uc' uf' us' le' rn' pl' k := by
  have e : lkO o C' F' B' k = lkO o C F B k := by
    cases e : o with
    | none => rfl
    | some q =>
      have h1 := (xI_1 hx e).1
      obtain ⟨u1, u2, u3⟩ := bn_u hx e (b1 q e) (b2 q e) (q.2.1.length - 1) (by omega)
      show lkP q C' F' B' k = lkP q C F B k
      unfold lkP
      rw [u1, u2, u3]
  unfold lkV
  rw [e]
theorem out_set (hx : xI h pp qq W t ou o le pl rn uc uf us) (hm : mI h t ou o le pl rn uc uf us) (x : Int64) : xI (xm_sl h 163 0 x) pp qq W t ou o le pl rn uc uf us ∧ mI (xm_sl h 163 0 x) t ou o le pl rn uc uf us ∧ (xm_sl h 163 0 x).2.1 163 0 = x := by
  have f : Fr [163] [] h (xm_sl h 163 0 x) := ⟨fun c _ => rfl, fun c hc => if_neg (by simpa using hc), fun c j _ => rfl⟩
  exact ⟨xI_hi hx f (by decide) (by decide +kernel), mI_lo hm f (by decide), by rw [xj_same]; simp [vp_updL]⟩
end LQ
