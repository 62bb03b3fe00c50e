/-! ===== types as trees: ONE is num 1, a + b is add, a * b is mul ===== -/
abbrev Ty : Type := Lean.Grind.CommRing.Expr
def tO : Ty := .num 1
def ty_ok : Ty → Prop
  | .add a b => ty_ok a ∧ ty_ok b
  | .mul a b => ty_ok a ∧ ty_ok b
  | .num k => k = 1
  | _ => False
/-- what a tree is above: some ONEs of it replaced -/
def ty_le : Ty → Ty → Prop
  | .add a b, u => ∃ c d, u = .add c d ∧ ty_le a c ∧ ty_le b d
  | .mul a b, u => ∃ c d, u = .mul c d ∧ ty_le a c ∧ ty_le b d
  | _, _ => True
theorem ty_le_refl : ∀ t : Ty, ty_le t t
  | .add a b => ⟨a, b, rfl, ty_le_refl a, ty_le_refl b⟩
  | .mul a b => ⟨a, b, rfl, ty_le_refl a, ty_le_refl b⟩
  | .num _ => trivial
  | .natCast _ => trivial
  | .intCast _ => trivial
  | .var _ => trivial
  | .neg _ => trivial
  | .sub _ _ => trivial
  | .pow _ _ => trivial
theorem ty_le_anti : ∀ {t u : Ty}, ty_ok t → ty_ok u → ty_le t u → ty_le u t → t = u
  | .add a b, u, ht, hu, h1, h2 => by
    obtain ⟨c, d, rfl, h3, h4⟩ := h1
    obtain ⟨c', d', h5, h6, h7⟩ := h2
    cases h5
    rw [ty_le_anti ht.1 hu.1 h3 h6, ty_le_anti ht.2 hu.2 h4 h7]
  | .mul a b, u, ht, hu, h1, h2 => by
    obtain ⟨c, d, rfl, h3, h4⟩ := h1
    obtain ⟨c', d', h5, h6, h7⟩ := h2
    cases h5
    rw [ty_le_anti ht.1 hu.1 h3 h6, ty_le_anti ht.2 hu.2 h4 h7]
  | .num k, u, ht, hu, h1, h2 => by
    cases u with
    | add a b => obtain ⟨c, d, h, _⟩ := h2; cases h
    | mul a b => obtain ⟨c, d, h, _⟩ := h2; cases h
    | num j =>
      have e1 : k = 1 := ht
      have e2 : j = 1 := hu
      rw [e1, e2]
    | _ => exact hu.elim
  | .natCast _, _, ht, _, _, _ => ht.elim
  | .intCast _, _, ht, _, _, _ => ht.elim
  | .var _, _, ht, _, _, _ => ht.elim
  | .neg _, _, ht, _, _, _ => ht.elim
  | .sub _ _, _, ht, _, _, _ => ht.elim
  | .pow _ _, _, ht, _, _, _ => ht.elim
def ty_sz : Ty → Nat
  | .add a b => ty_sz a + ty_sz b + 1
  | .mul a b => ty_sz a + ty_sz b + 1
  | _ => 1
/-- what a term of kind k (0 open, 1 ONE, 2 sum, 3 product) asks of a valuation -/
def ty_st (V : Nat → Ty) (k l r t : Nat) : Prop := (k = 1 → V t = tO) ∧ (k = 2 → V t = .add (V l) (V r)) ∧ (k = 3 → V t = .mul (V l) (V r))
/-- terms: how many, kinds, parts; rt: the root of each -/
def ty_all (c : Nat) (k l r : Nat → Nat) (V : Nat → Ty) : Prop := ∀ t, t < c → ty_st V (k t) (l t) (r t) t
def ty_pd {α : Type} (pd : List (Nat × Nat)) (V : Nat → α) : Prop := ∀ q ∈ pd, V q.1 = V q.2
def ty_lnk {α : Type} (c : Nat) (rt : Nat → Nat) (V : Nat → α) : Prop := ∀ t, t < c → V (rt t) = V t
def ty_vok (V : Nat → Ty) : Prop := ∀ t, ty_ok (V t)
/-- what terms and equations ask of a valuation, links and pairs that wait ask no more -/
def ty_JS (c : Nat) (k l r rt : Nat → Nat) (es pd : List (Nat × Nat)) : Prop := ∀ V, ty_vok V → ty_all c k l r V → ty_pd es V → ty_lnk c rt V ∧ ty_pd pd V
/-- what is one by links and pairs that wait: parts of what is one, and the equations -/
def ty_JK (c : Nat) (k l r rt : Nat → Nat) (es pd : List (Nat × Nat)) : Prop := ∀ f : Nat → Nat, ty_lnk c rt f → ty_pd pd f → (∀ t, t < c → 1 ≤ k t → k (rt t) = k t ∧ (2 ≤ k t → f (l (rt t)) = f (l t) ∧ f (r (rt t)) = f (r t))) ∧ ty_pd es f
/-- roots are roots, parts are terms -/
def ty_G (c : Nat) (k l r rt : Nat → Nat) : Prop := (∀ t, t < c → rt t < c ∧ rt (rt t) = rt t) ∧ ∀ t, t < c → k t < 4 ∧ (2 ≤ k t → l t < c ∧ r t < c)
theorem ty_pd_nil {α : Type} (V : Nat → α) : ty_pd [] V := fun _ h => by cases h
theorem ty_pd_cons {α : Type} {x y : Nat} {pd : List (Nat × Nat)} {V : Nat → α} : ty_pd ((x, y) :: pd) V ↔ V x = V y ∧ ty_pd pd V := by
  simp [ty_pd]
/-- an equation comes -/
theorem ty_JS_eq {c : Nat} {k l r rt : Nat → Nat} {es pd : List (Nat × Nat)} (x y : Nat) (h : ty_JS c k l r rt es pd) : ty_JS c k l r rt ((x, y) :: es) ((x, y) :: pd) := by
  intro V hV h1 h2
  rw [ty_pd_cons] at h2 ⊢
  obtain ⟨a, b⟩ := h V hV h1 h2.2
  exact ⟨a, h2.1, b⟩
theorem ty_JK_eq {c : Nat} {k l r rt : Nat → Nat} {es pd : List (Nat × Nat)} (x y : Nat) (h : ty_JK c k l r rt es pd) : ty_JK c k l r rt ((x, y) :: es) ((x, y) :: pd) := by
  intro f h1 h2
  rw [ty_pd_cons] at h2 ⊢
  obtain ⟨a, b⟩ := h f h1 h2.2
  exact ⟨a, h2.1, b⟩
/-- a pair whose ends have one root goes -/
theorem ty_JS_same {c : Nat} {k l r rt : Nat → Nat} {es pd : List (Nat × Nat)} {x y : Nat} (h : ty_JS c k l r rt es ((x, y) :: pd)) : ty_JS c k l r rt es pd := by
  intro V hV h1 h2
  obtain ⟨a, b⟩ := h V hV h1 h2
  exact ⟨a, (ty_pd_cons.mp b).2⟩
theorem ty_JK_same {c : Nat} {k l r rt : Nat → Nat} {es pd : List (Nat × Nat)} {x y : Nat} (hx : x < c) (hy : y < c) (hxy : rt x = rt y) (h : ty_JK c k l r rt es ((x, y) :: pd)) : ty_JK c k l r rt es pd := by
  intro f h1 h2
  exact h f h1 (ty_pd_cons.mpr ⟨by rw [← h1 x hx, ← h1 y hy, hxy], h2⟩)
def ty_link (rt : Nat → Nat) (a b : Nat) : Nat → Nat := fun t => if rt t = a then b else rt t
theorem ty_link_G {c : Nat} {k l r rt : Nat → Nat} {a b : Nat} (hG : ty_G c k l r rt) (hb : b < c) (hbb : rt b = b) (hab : a ≠ b) : ty_G c k l r (ty_link rt a b) := by
  refine ⟨fun t ht => ?_, hG.2⟩
  unfold ty_link
  by_cases h1 : rt t = a
  · rw [if_pos h1]
    refine ⟨hb, ?_⟩
    rw [if_neg (by rw [hbb]; exact fun z => hab z.symm), hbb]
  · rw [if_neg h1]
    refine ⟨(hG.1 t ht).1, ?_⟩
    rw [(hG.1 t ht).2, if_neg h1]
/-- links after two roots became one: those before, and the equation of both -/
theorem ty_link_lnk {α : Type} {c : Nat} {rt : Nat → Nat} {a b : Nat} (ha : a < c) (haa : rt a = a) (V : Nat → α) : ty_lnk c (ty_link rt a b) V ↔ ty_lnk c rt V ∧ V b = V a := by
  constructor
  · intro h
    have h1 : V b = V a := by
      have := h a ha
      unfold ty_link at this
      rw [haa, if_pos rfl] at this
      exact this
    refine ⟨fun t ht => ?_, h1⟩
    have h2 := h t ht
    unfold ty_link at h2
    by_cases h3 : rt t = a
    · rw [if_pos h3] at h2
      rw [h3, ← h1, h2]
    · rw [if_neg h3] at h2; exact h2
  · rintro ⟨h, h1⟩ t ht
    unfold ty_link
    by_cases h3 : rt t = a
    · rw [if_pos h3, h1, ← h3, h t ht]
    · rw [if_neg h3]; exact h t ht
theorem ty_link_rt {rt : Nat → Nat} {a b t : Nat} (hbb : rt b = b) (hab : a ≠ b) : ty_link rt a b t = t ↔ rt t = t ∧ t ≠ a := by
  unfold ty_link
  by_cases h : rt t = a
  · rw [if_pos h]
    constructor
    · intro hb
      rw [← hb, hbb] at h
      exact absurd h.symm hab
    · rintro ⟨h1, h2⟩; exact absurd (h1.symm.trans h) h2
  · rw [if_neg h]
    constructor
    · intro h1; exact ⟨h1, fun q => h (by rw [h1, q])⟩
    · exact fun q => q.1
/-- a root a goes to another one b: what waits then -/
theorem ty_J_link {c : Nat} {k l r rt : Nat → Nat} {es pd pd' : List (Nat × Nat)} {x y a b : Nat} (hG : ty_G c k l r rt) (hx : x < c) (hy : y < c) (hxy : (rt x = a ∧ rt y = b) ∨ (rt x = b ∧ rt y = a)) (hab : a ≠ b) (hk : k a = 0 ∨ k a = k b)
    (hpS : ∀ V : Nat → Ty, ty_pd pd V → (k a = k b → 2 ≤ k a → V (l a) = V (l b) ∧ V (r a) = V (r b)) → ty_pd pd' V) (hpK : ∀ f : Nat → Nat, ty_pd pd' f → ty_pd pd f ∧ (1 ≤ k a → 2 ≤ k a → f (l a) = f (l b) ∧ f (r a) = f (r b)))
    (h : ty_JS c k l r rt es ((x, y) :: pd)) (h' : ty_JK c k l r rt es ((x, y) :: pd)) : ty_JS c k l r (ty_link rt a b) es pd' ∧ ty_JK c k l r (ty_link rt a b) es pd' := by
  have hA : a < c ∧ b < c ∧ rt a = a ∧ rt b = b := by
    have h1 := hG.1 x hx
    have h2 := hG.1 y hy
    rcases hxy with ⟨e1, e2⟩ | ⟨e1, e2⟩ <;> rw [e1] at h1 <;> rw [e2] at h2
    · exact ⟨h1.1, h2.1, h1.2, h2.2⟩
    · exact ⟨h2.1, h1.1, h2.2, h1.2⟩
  obtain ⟨ha, hb, haa, hbb⟩ := hA
  have hv : ∀ {α : Type} (V : Nat → α), ty_lnk c rt V → (V x = V y ↔ V b = V a) := by
    intro α V q
    rw [← q x hx, ← q y hy]
    rcases hxy with ⟨e1, e2⟩ | ⟨e1, e2⟩ <;> rw [e1, e2]
    exact eq_comm
  constructor
  · intro V hV h1 h2
    obtain ⟨q1, q2⟩ := h V hV h1 h2
    rw [ty_pd_cons] at q2
    have q3 := (hv V q1).mp q2.1
    refine ⟨(ty_link_lnk ha haa V).mpr ⟨q1, q3⟩, hpS V q2.2 (fun e1 e2 => ?_)⟩
    have s1 := h1 a ha
    have s2 := h1 b hb
    rw [← e1] at s2
    have h4 := (hG.2 a ha).1
    rcases (by omega : k a = 2 ∨ k a = 3) with h3 | h3
    · have t1 := s1.2.1 h3
      have t2 := s2.2.1 h3
      rw [q3, t1] at t2
      injection t2 with t3 t4
      exact ⟨t3, t4⟩
    · have t1 := s1.2.2 h3
      have t2 := s2.2.2 h3
      rw [q3, t1] at t2
      injection t2 with t3 t4
      exact ⟨t3, t4⟩
  · intro f h1 h2
    obtain ⟨q1, q2⟩ := (ty_link_lnk ha haa f).mp h1
    obtain ⟨q3, q4⟩ := hpK f h2
    obtain ⟨q5, q6⟩ := h' f q1 (ty_pd_cons.mpr ⟨(hv f q1).mpr q2, q3⟩)
    refine ⟨fun t ht k1 => ?_, q6⟩
    obtain ⟨p1, p2⟩ := q5 t ht k1
    unfold ty_link
    by_cases h3 : rt t = a
    · rw [if_pos h3]
      rw [h3] at p1 p2
      have hk2 : k a = k b := by
        rcases hk with e | e
        · omega
        · exact e
      refine ⟨by rw [← hk2, p1], fun h2' => ?_⟩
      obtain ⟨p3, p4⟩ := p2 h2'
      obtain ⟨p5, p6⟩ := q4 (by omega) (by omega)
      exact ⟨p5.symm.trans p3, p6.symm.trans p4⟩
    · rw [if_neg h3]; exact ⟨p1, p2⟩
theorem ty_st_kind {V : Nat → Ty} {k k' a b la ra lb rb : Nat} (h1 : 1 ≤ k) (h4 : k < 4) (h1' : 1 ≤ k') (h4' : k' < 4) (ha : ty_st V k la ra a) (hb : ty_st V k' lb rb b) (h : V a = V b) : k = k' := by
  rcases (by omega : k = 1 ∨ k = 2 ∨ k = 3) with h3 | h3 | h3 <;> rcases (by omega : k' = 1 ∨ k' = 2 ∨ k' = 3) with h5 | h5 | h5 <;> first
    | omega
    | (exfalso
       have e1 := ha.1
       have e2 := ha.2.1
       have e3 := ha.2.2
       have f1 := hb.1
       have f2 := hb.2.1
       have f3 := hb.2.2
       simp [h3, h5, tO] at e1 e2 e3 f1 f2 f3
       simp_all)
/-- two roots of other kinds: nothing meets it -/
theorem ty_J_bad {c : Nat} {k l r rt : Nat → Nat} {es pd : List (Nat × Nat)} {x y : Nat} (hG : ty_G c k l r rt) (hx : x < c) (hy : y < c) (h1 : 1 ≤ k (rt x)) (h2 : 1 ≤ k (rt y)) (hne : k (rt x) ≠ k (rt y)) (h : ty_JS c k l r rt es ((x, y) :: pd)) : ∀ V, ty_vok V → ty_all c k l r V → ty_pd es V → False := by
  intro V hV p1 hE
  obtain ⟨p2, p3⟩ := h V hV p1 hE
  rw [ty_pd_cons] at p3
  have ex := hG.1 x hx
  have ey := hG.1 y hy
  refine hne (ty_st_kind h1 (hG.2 _ ex.1).1 h2 (hG.2 _ ey.1).1 (p1 _ ex.1) (p1 _ ey.1) ?_)
  rw [p2 x hx, p2 y hy, p3.1]
/-- a new term -/
theorem ty_J_new {c : Nat} {k l r rt k' l' r' rt' : Nat → Nat} {es : List (Nat × Nat)} (he : ∀ t, t < c → k' t = k t ∧ l' t = l t ∧ r' t = r t ∧ rt' t = rt t) (hc : rt' c = c) (hG : ty_G c k l r rt) (hS : ty_JS c k l r rt es []) (hK : ty_JK c k l r rt es []) : ty_JS (c + 1) k' l' r' rt' es [] ∧ ty_JK (c + 1) k' l' r' rt' es [] := by
  constructor
  · intro V hV h1 h2
    have h3 : ty_all c k l r V := by
      intro t ht
      have := h1 t (by omega)
      rw [(he t ht).1, (he t ht).2.1, (he t ht).2.2.1] at this
      exact this
    refine ⟨fun t ht => ?_, ty_pd_nil V⟩
    by_cases e : t = c
    · rw [e, hc]
    · rw [(he t (by omega)).2.2.2]; exact (hS V hV h3 h2).1 t (by omega)
  · intro f h1 h2
    have h3 : ty_lnk c rt f := by
      intro t ht
      have := h1 t (by omega)
      rw [(he t ht).2.2.2] at this
      exact this
    obtain ⟨q1, q2⟩ := hK f h3 h2
    refine ⟨fun t ht k1 => ?_, q2⟩
    by_cases e : t = c
    · rw [e, hc]; exact ⟨rfl, fun _ => ⟨rfl, rfl⟩⟩
    · have ht2 : t < c := by omega
      obtain ⟨e1, e2, e3, e4⟩ := he t ht2
      obtain ⟨f1, f2, f3, f4⟩ := he (rt t) (hG.1 t ht2).1
      rw [e1] at k1 ⊢
      rw [e2, e3, e4, f1, f2, f3]
      exact q1 t ht2 k1
