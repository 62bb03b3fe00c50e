/-! ===== words, jets, the rules of types, least solutions ===== -/
def ty_wd : Nat → Ty
  | 0 => .add tO tO
  | k + 1 => .mul (ty_wd k) (ty_wd k)
def ty_shp (s m : Nat) : Ty := match s with
  | 0 => tO
  | 1 => ty_wd 0
  | 2 => ty_wd (2 + m)
  | 3 => ty_wd (3 + m)
  | 4 => ty_wd (4 + m)
  | 5 => ty_wd (5 + m)
  | 6 => ty_wd 3
  | 7 => .mul (ty_wd 0) (ty_wd (3 + m))
  | 8 => .mul (ty_wd 0) (ty_wd (4 + m))
  | 9 => .mul (ty_wd (3 + m)) (ty_wd (4 + m))
  | 10 => .mul (ty_wd 3) (ty_wd (3 + m))
  | _ => tO
def jt_S (k : Nat) : Nat := [4, 8, 4, 8, 3, 3, 3, 4, 5, 4, 4, 4, 4, 4, 4, 4, 4, 4, 9, 3, 3, 3, 3, 3, 4, 4, 4, 9, 9, 9, 0, 0, 10, 10, 10, 10, 3, 3, 3, 3, 2, 2].getD k 0
def jt_T (k : Nat) : Nat := [7, 7, 7, 7, 7, 7, 7, 4, 4, 3, 3, 1, 1, 1, 1, 1, 3, 3, 3, 1, 1, 1, 1, 3, 3, 3, 3, 3, 3, 3, 3, 3, 3, 3, 3, 3, 6, 6, 2, 2, 3, 3].getD k 0
def ty_js (j : Nat) : Ty := ty_shp (jt_S (j / 4)) (j % 4)
def ty_jt (j : Nat) : Ty := ty_shp (jt_T (j / 4)) (j % 4)
theorem ty_wd_ok : ∀ k, ty_ok (ty_wd k)
  | 0 => ⟨rfl, rfl⟩
  | k + 1 => ⟨ty_wd_ok k, ty_wd_ok k⟩
theorem ty_shp_ok (s m : Nat) : ty_ok (ty_shp s m) := by
  unfold ty_shp
  split <;> first | exact ty_wd_ok _ | exact ⟨ty_wd_ok _, ty_wd_ok _⟩ | exact rfl
/-- what a node asks of sources and targets -/
def ty_rule (cd fi se nu : Nat → Nat) (S T : Nat → Ty) (n : Nat) : Prop :=
  (cd n = 0 → S (fi n) = S n ∧ T (se n) = T n ∧ T (fi n) = S (se n)) ∧
  (cd n = 1 → ∃ a b c, S n = .mul (.add a b) c ∧ (cd (fi n) ≠ 11 → S (fi n) = .mul a c ∧ T (fi n) = T n) ∧ (cd (se n) ≠ 11 → S (se n) = .mul b c ∧ T (se n) = T n)) ∧
  (cd n = 2 → S (fi n) = S n ∧ S (se n) = S n ∧ T n = .mul (T (fi n)) (T (se n))) ∧
  (cd n = 3 → S (fi n) = S n ∧ ∃ c, T n = .add (T (fi n)) c) ∧
  (cd n = 4 → S (fi n) = S n ∧ ∃ c, T n = .add c (T (fi n))) ∧
  (cd n = 5 → T (fi n) = T n ∧ ∃ c, S n = .mul (S (fi n)) c) ∧
  (cd n = 6 → T (fi n) = T n ∧ ∃ c, S n = .mul c (S (fi n))) ∧
  (cd n = 7 → T n = S n) ∧ (cd n = 8 → T n = tO) ∧ (cd n = 12 → S n = ty_js (nu n) ∧ T n = ty_jt (nu n))
def ty_sol (cd fi se nu : Nat → Nat) (L : List Nat) (S T : Nat → Ty) : Prop := ty_vok S ∧ ty_vok T ∧ ∀ n ∈ L, ty_rule cd fi se nu S T n
def ty_least (cd fi se nu : Nat → Nat) (L : List Nat) (S T : Nat → Ty) : Prop := ty_sol cd fi se nu L S T ∧ ∀ S' T', ty_sol cd fi se nu L S' T' → ∀ n ∈ L, cd n ≠ 11 → ty_le (S n) (S' n) ∧ ty_le (T n) (T' n)
theorem ty_least_uniq {cd fi se nu : Nat → Nat} {L : List Nat} {S T S' T' : Nat → Ty} (h : ty_least cd fi se nu L S T) (h' : ty_least cd fi se nu L S' T') {n : Nat} (hn : n ∈ L) (hc : cd n ≠ 11) : S n = S' n ∧ T n = T' n := by
  obtain ⟨a, b⟩ := h.2 S' T' h'.1 n hn hc
  obtain ⟨a', b'⟩ := h'.2 S T h.1 n hn hc
  exact ⟨ty_le_anti (h.1.1 n) (h'.1.1 n) a a', ty_le_anti (h.1.2.1 n) (h'.1.2.1 n) b b'⟩
/-! ===== trees that were found of roots ===== -/
def rs_fd (c : Nat) (k l r rt : Nat → Nat) (fd : Nat → Option Ty) : Prop := ∀ t a, fd t = some a → t < c ∧ rt t = t ∧ (k t ≤ 1 → a = tO) ∧ (k t = 2 → ∃ x y, fd (rt (l t)) = some x ∧ fd (rt (r t)) = some y ∧ a = .add x y) ∧ (k t = 3 → ∃ x y, fd (rt (l t)) = some x ∧ fd (rt (r t)) = some y ∧ a = .mul x y)
def rs_up (fd : Nat → Option Ty) (t : Nat) (a : Ty) : Nat → Option Ty := fun s => if s = t then some a else fd s
theorem rs_up_of {fd : Nat → Option Ty} {t s : Nat} {a x : Ty} (hn : fd t = none) (h : fd s = some x) : rs_up fd t a s = some x := by
  unfold rs_up
  by_cases e : s = t
  · rw [e, hn] at h; cases h
  · rw [if_neg e, h]
theorem rs_up_same {fd : Nat → Option Ty} {t : Nat} {a : Ty} : rs_up fd t a t = some a := if_pos rfl
theorem rs_up_other {fd : Nat → Option Ty} {t s : Nat} {a : Ty} (h : s ≠ t) : rs_up fd t a s = fd s := if_neg h
theorem rs_fd_up {c : Nat} {k l r rt : Nat → Nat} {fd : Nat → Option Ty} {t : Nat} {a : Ty} (h : rs_fd c k l r rt fd) (ht : t < c) (hr : rt t = t) (hn : fd t = none) (h1 : k t ≤ 1 → a = tO) (h2 : k t = 2 → ∃ x y, fd (rt (l t)) = some x ∧ fd (rt (r t)) = some y ∧ a = .add x y) (h3 : k t = 3 → ∃ x y, fd (rt (l t)) = some x ∧ fd (rt (r t)) = some y ∧ a = .mul x y) : rs_fd c k l r rt (rs_up fd t a) := by
  intro s b hs
  by_cases e : s = t
  · subst e
    rw [rs_up_same] at hs
    cases hs
    refine ⟨ht, hr, h1, fun q => ?_, fun q => ?_⟩
    · obtain ⟨x, y, e1, e2, e3⟩ := h2 q
      exact ⟨x, y, rs_up_of hn e1, rs_up_of hn e2, e3⟩
    · obtain ⟨x, y, e1, e2, e3⟩ := h3 q
      exact ⟨x, y, rs_up_of hn e1, rs_up_of hn e2, e3⟩
  · rw [rs_up_other e] at hs
    obtain ⟨g1, g2, g3, g4, g5⟩ := h s b hs
    refine ⟨g1, g2, g3, fun q => ?_, fun q => ?_⟩
    · obtain ⟨x, y, e1, e2, e3⟩ := g4 q
      exact ⟨x, y, rs_up_of hn e1, rs_up_of hn e2, e3⟩
    · obtain ⟨x, y, e1, e2, e3⟩ := g5 q
      exact ⟨x, y, rs_up_of hn e1, rs_up_of hn e2, e3⟩
theorem rs_ind {c : Nat} {k l r rt : Nat → Nat} {fd : Nat → Option Ty} (hG : ty_G c k l r rt) (h : rs_fd c k l r rt fd) {P : Nat → Ty → Prop} (h1 : ∀ t, t < c → rt t = t → k t ≤ 1 → P t tO) (h2 : ∀ t x y, t < c → rt t = t → k t = 2 → P (rt (l t)) x → P (rt (r t)) y → P t (.add x y)) (h3 : ∀ t x y, t < c → rt t = t → k t = 3 → P (rt (l t)) x → P (rt (r t)) y → P t (.mul x y)) : ∀ (n : Nat) (a : Ty) (t : Nat), ty_sz a ≤ n → fd t = some a → P t a
  | 0, a, t, hn, _ => by cases a <;> simp [ty_sz] at hn
  | n + 1, a, t, hn, hf => by
    obtain ⟨g1, g2, g3, g4, g5⟩ := h t a hf
    have hk := (hG.2 t g1).1
    rcases (by omega : k t ≤ 1 ∨ k t = 2 ∨ k t = 3) with q | q | q
    · rw [g3 q]; exact h1 t g1 g2 q
    · obtain ⟨x, y, e1, e2, rfl⟩ := g4 q
      simp only [ty_sz] at hn
      exact h2 t x y g1 g2 q (rs_ind hG h h1 h2 h3 n x _ (by omega) e1) (rs_ind hG h h1 h2 h3 n y _ (by omega) e2)
    · obtain ⟨x, y, e1, e2, rfl⟩ := g5 q
      simp only [ty_sz] at hn
      exact h3 t x y g1 g2 q (rs_ind hG h h1 h2 h3 n x _ (by omega) e1) (rs_ind hG h h1 h2 h3 n y _ (by omega) e2)
theorem rs_ok {c : Nat} {k l r rt : Nat → Nat} {fd : Nat → Option Ty} (hG : ty_G c k l r rt) (h : rs_fd c k l r rt fd) {t : Nat} {a : Ty} (hf : fd t = some a) : ty_ok a :=
  rs_ind hG h (P := fun _ a => ty_ok a) (fun _ _ _ _ => rfl) (fun _ _ _ _ _ _ q1 q2 => ⟨q1, q2⟩) (fun _ _ _ _ _ _ q1 q2 => ⟨q1, q2⟩) _ a t (Nat.le_refl _) hf
theorem rs_le {c : Nat} {k l r rt : Nat → Nat} {fd : Nat → Option Ty} {V : Nat → Ty} (hG : ty_G c k l r rt) (h : rs_fd c k l r rt fd) (hA : ty_all c k l r V) (hL : ty_lnk c rt V) {t : Nat} {a : Ty} (hf : fd t = some a) : ty_le a (V t) := by
  refine rs_ind hG h (P := fun t a => ty_le a (V t)) (fun _ _ _ _ => trivial) (fun t x y h1 _ h3 q1 q2 => ?_) (fun t x y h1 _ h3 q1 q2 => ?_) _ a t (Nat.le_refl _) hf
  · obtain ⟨hl, hr⟩ := (hG.2 t h1).2 (by omega)
    rw [hL _ hl] at q1
    rw [hL _ hr] at q2
    exact ⟨_, _, (hA t h1).2.1 h3, q1, q2⟩
  · obtain ⟨hl, hr⟩ := (hG.2 t h1).2 (by omega)
    rw [hL _ hl] at q1
    rw [hL _ hr] at q2
    exact ⟨_, _, (hA t h1).2.2 h3, q1, q2⟩
def rs_V (rt : Nat → Nat) (fd : Nat → Option Ty) : Nat → Ty := fun t => (fd (rt t)).getD tO
theorem rs_V_ok {c : Nat} {k l r rt : Nat → Nat} {fd : Nat → Option Ty} (hG : ty_G c k l r rt) (h : rs_fd c k l r rt fd) : ty_vok (rs_V rt fd) := by
  intro t
  unfold rs_V
  cases hf : fd (rt t) with
  | none => exact rfl
  | some a => exact rs_ok hG h hf
/-- a term whose root was found: the trees meet it, and its parts were found -/
theorem rs_st {c : Nat} {k l r rt : Nat → Nat} {es : List (Nat × Nat)} {fd : Nat → Option Ty} (hG : ty_G c k l r rt) (h : rs_fd c k l r rt fd) (hK : ty_JK c k l r rt es []) {t : Nat} (ht : t < c) (hf : (fd (rt t)).isSome = true) (h1 : 1 ≤ k t) :
    ty_st (rs_V rt fd) (k t) (l t) (r t) t ∧ (2 ≤ k t → (fd (rt (l t))).isSome = true ∧ (fd (rt (r t))).isSome = true) := by
  obtain ⟨a, ha⟩ := Option.isSome_iff_exists.mp hf
  obtain ⟨g1, g2, g3, g4, g5⟩ := h _ a ha
  obtain ⟨q1, q2⟩ := (hK rt (fun t ht => (hG.1 t ht).2) (ty_pd_nil _)).1 t ht h1
  have hv : rs_V rt fd t = a := by unfold rs_V; rw [ha]; rfl
  refine ⟨⟨fun e => ?_, fun e => ?_, fun e => ?_⟩, fun e => ?_⟩
  · rw [hv]; exact g3 (by omega)
  · obtain ⟨x, y, e1, e2, e3⟩ := g4 (by omega)
    obtain ⟨e4, e5⟩ := q2 (by omega)
    rw [e4] at e1
    rw [e5] at e2
    rw [hv, e3]; unfold rs_V; rw [e1, e2]; rfl
  · obtain ⟨x, y, e1, e2, e3⟩ := g5 (by omega)
    obtain ⟨e4, e5⟩ := q2 (by omega)
    rw [e4] at e1
    rw [e5] at e2
    rw [hv, e3]; unfold rs_V; rw [e1, e2]; rfl
  · obtain ⟨e4, e5⟩ := q2 e
    have hk := (hG.2 t ht).1
    rcases (by omega : k t = 2 ∨ k t = 3) with q | q
    · obtain ⟨x, y, e1, e2, _⟩ := g4 (by omega)
      rw [e4] at e1; rw [e5] at e2
      rw [e1, e2]; exact ⟨rfl, rfl⟩
    · obtain ⟨x, y, e1, e2, _⟩ := g5 (by omega)
      rw [e4] at e1; rw [e5] at e2
      rw [e1, e2]; exact ⟨rfl, rfl⟩
/-- terms that wait: each is a part of the next -/
def rs_ch (k l r rt : Nat → Nat) : List Nat → Prop
  | [] => True
  | t :: q => (∀ p, q.head? = some p → 2 ≤ k p ∧ (t = rt (l p) ∨ t = rt (r p))) ∧ rs_ch k l r rt q
theorem rs_part {c : Nat} {k l r rt : Nat → Nat} {V : Nat → Ty} (hG : ty_G c k l r rt) (hA : ty_all c k l r V) (hL : ty_lnk c rt V) {t p : Nat} (hp : p < c) (hk : 2 ≤ k p) (h : t = rt (l p) ∨ t = rt (r p)) : ty_sz (V t) < ty_sz (V p) := by
  obtain ⟨hl, hr⟩ := (hG.2 p hp).2 hk
  have hk4 := (hG.2 p hp).1
  have e : ty_sz (V p) = ty_sz (V (l p)) + ty_sz (V (r p)) + 1 := by
    rcases (by omega : k p = 2 ∨ k p = 3) with q | q
    · rw [(hA p hp).2.1 q]; rfl
    · rw [(hA p hp).2.2 q]; rfl
  rcases h with rfl | rfl
  · rw [hL _ hl]; omega
  · rw [hL _ hr]; omega
theorem rs_ch_sz {c : Nat} {k l r rt : Nat → Nat} {V : Nat → Ty} (hG : ty_G c k l r rt) (hA : ty_all c k l r V) (hL : ty_lnk c rt V) : ∀ (q : List Nat) (t : Nat), (∀ u ∈ t :: q, u < c) → rs_ch k l r rt (t :: q) → ∀ u ∈ t :: q, ty_sz (V t) ≤ ty_sz (V u)
  | [], t, _, _, u, hu => by
    rw [List.mem_singleton.mp hu]; exact Nat.le_refl _
  | p :: q, t, hc, hch, u, hu => by
    have h1 := hch.1 p rfl
    have h2 := rs_part hG hA hL (hc p (by simp)) h1.1 h1.2
    rcases List.mem_cons.mp hu with h | h
    · rw [h]; exact Nat.le_refl _
    · have := rs_ch_sz hG hA hL q p (fun u hu => hc u (List.mem_cons_of_mem _ hu)) hch.2 u h
      omega
/-- a term that is a part of itself: nothing meets it -/
theorem rs_cyc {c : Nat} {k l r rt : Nat → Nat} {V : Nat → Ty} (hG : ty_G c k l r rt) (hA : ty_all c k l r V) (hL : ty_lnk c rt V) {q : List Nat} {t u : Nat} (hc : ∀ u ∈ t :: q, u < c) (hch : rs_ch k l r rt (t :: q)) (hu : u ∈ t :: q) (hk : 2 ≤ k t) (h : u = rt (l t) ∨ u = rt (r t)) : False := by
  have h1 := rs_ch_sz hG hA hL q t hc hch u hu
  have h2 := rs_part hG hA hL (hc t (by simp)) hk h
  omega
