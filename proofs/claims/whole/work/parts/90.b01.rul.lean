/-! ===== rules for paths: comparisons of numbers, frames, rows as functions ===== -/
theorem nI_ltJ {a b : Nat} (ha : a < 2147483648) (hb : b < 2147483648) : (nI a < nI b) = (a < b) := propext (nI_ltI ha hb)
theorem nI_leJ {a b : Nat} (ha : a < 2147483648) (hb : b < 2147483648) : (nI a ≤ nI b) = (a ≤ b) := propext (nI_leI ha hb)
theorem nI_eqJ {a b : Nat} (ha : a < 2147483648) (hb : b < 2147483648) : (nI a = nI b) = (a = b) := propext (nI_eq ha hb)
theorem nI_z : nI 0 = 0 := rfl
theorem nI_ltz {a : Nat} (ha : a < 2147483648) : (nI a < 0) = False := eq_false (nI_pos ha)
theorem nI_gez {a : Nat} (ha : a < 2147483648) : (0 ≤ nI a) = True := eq_true (nI_pos' ha)
theorem nI_gtz {a : Nat} (ha : a < 2147483648) : (0 < nI a) = (0 < a) := propext (nI_ltI (a := 0) (by decide) ha)
theorem nI_lez {a : Nat} (ha : a < 2147483648) : (nI a ≤ 0) = (a = 0) := propext ((nI_leI (b := 0) ha (by decide)).trans Nat.le_zero)
theorem nI_eqz {a : Nat} (ha : a < 2147483648) : (nI a = 0) = (a = 0) := propext (nI_eq (b := 0) ha (by decide))
theorem m1_ltz : ((-1 : Int32) < 0) = True := eq_true (by decide)
theorem m1_gez : (0 ≤ (-1 : Int32)) = False := eq_false (by decide)
def oI : Option Nat → Int32
  | none => -1
  | some n => nI n
theorem oI_n : oI none = -1 := rfl
theorem oI_s (n : Nat) : oI (some n) = nI n := rfl
/-- what may be another one: rows of S, fields of T -/
def Fr (S : List Nat) (T : List (Nat × Nat)) (h h' : xm_H) : Prop := (∀ c, c ∉ S → h'.1 c = h.1 c) ∧ (∀ c, c ∉ S → h'.2.1 c = h.2.1 c) ∧ ∀ c j, (c, j) ∉ T → h'.2.2 c j = h.2.2 c j
theorem Fr_rf {S : List Nat} {T : List (Nat × Nat)} {h : xm_H} : Fr S T h h := ⟨fun _ _ => rfl, fun _ _ => rfl, fun _ _ _ => rfl⟩
theorem Fr_tr {S S' : List Nat} {T T' : List (Nat × Nat)} {h h1 h2 : xm_H} (a : Fr S T h h1) (b : Fr S' T' h1 h2) (hS : ∀ c ∈ S', c ∈ S) (hT : ∀ q ∈ T', q ∈ T) : Fr S T h h2 :=
  ⟨fun c hc => (b.1 c (fun z => hc (hS c z))).trans (a.1 c hc), fun c hc => (b.2.1 c (fun z => hc (hS c z))).trans (a.2.1 c hc), fun c j hc => (b.2.2 c j (fun z => hc (hT _ z))).trans (a.2.2 c j hc)⟩
theorem Fr_mo {S S' : List Nat} {T T' : List (Nat × Nat)} {h h1 : xm_H} (a : Fr S' T' h h1) (hS : ∀ c ∈ S', c ∈ S) (hT : ∀ q ∈ T', q ∈ T) : Fr S T h h1 := Fr_tr Fr_rf a hS hT
theorem Fr_sf {S : List Nat} {T : List (Nat × Nat)} {h h1 : xm_H} {a j : Nat} {v : Value} (b : Fr S T h h1) (hT : (a, j) ∈ T) : Fr S T h (xm_sf h1 a j v) := by
  refine ⟨b.1, b.2.1, fun c i hc => ?_⟩
  rw [← b.2.2 c i hc]
  by_cases e : c = a
  · subst e
    have : i ≠ j := fun z => hc (by rw [z]; exact hT)
    simp [xm_sf, updV, this]
  · simp [xm_sf, e]
theorem Fr_si {S : List Nat} {T : List (Nat × Nat)} {h h1 : xm_H} {a j : Nat} {x : Int32} (b : Fr S T h h1) (hS : a ∈ S) : Fr S T h (xm_si h1 a j x) := by
  refine ⟨fun c hc => ?_, b.2.1, b.2.2⟩
  rw [← b.1 c hc]
  have : c ≠ a := fun z => hc (by rw [z]; exact hS)
  simp [xm_si, this]
theorem Fr_sa {S : List Nat} {T : List (Nat × Nat)} {h h1 : xm_H} {a : Nat} {f : Nat → Int32} (b : Fr S T h h1) (hS : a ∈ S) : Fr S T h (xm_sa h1 a f) := by
  refine ⟨fun c hc => ?_, b.2.1, b.2.2⟩
  rw [← b.1 c hc]
  have : c ≠ a := fun z => hc (by rw [z]; exact hS)
  simp [xm_sa, this]
theorem Fr_sl {S : List Nat} {T : List (Nat × Nat)} {h h1 : xm_H} {a j : Nat} {x : Int64} (b : Fr S T h h1) (hS : a ∈ S) : Fr S T h (xm_sl h1 a j x) := by
  refine ⟨b.1, fun c hc => ?_, b.2.2⟩
  rw [← b.2.1 c hc]
  have : c ≠ a := fun z => hc (by rw [z]; exact hS)
  simp [xm_sl, this]
theorem Fr_XF {S : List Nat} {T : List (Nat × Nat)} {h h1 : xm_H} (hF : XF h) (b : Fr S T h h1) (hT : xt_fin.all (fun q => !(T.contains (q.1, q.2.1))) = true) : XF h1 := by
  intro q hq
  have h2 := List.all_eq_true.mp hT q hq
  rw [b.2.2 q.1 q.2.1 (by simpa using h2)]
  exact hF q hq
/-- rows as functions -/
theorem xq_sa1 {h : xm_H} {a : Nat} {f : Nat → Int32} : (xm_sa h a f).2 = h.2 := rfl
theorem xq_same {h : xm_H} {a : Nat} {f : Nat → Int32} : (xm_sa h a f).1 a = f := by simp [xm_sa]
theorem xq_other {h : xm_H} {a b : Nat} {f : Nat → Int32} (hb : b ≠ a) : (xm_sa h a f).1 b = h.1 b := by simp [xm_sa, hb]
theorem xq_so {h : xm_H} {a b j : Nat} {x : Int32} (hb : b ≠ a) : (xm_si h a j x).1 b = h.1 b := by simp [xm_si, hb]
theorem xq_jo {h : xm_H} {a b j : Nat} {x : Int64} (hb : b ≠ a) : (xm_sl h a j x).2.1 b = h.2.1 b := by simp [xm_sl, hb]
theorem xq_fo {h : xm_H} {a b j i : Nat} {v : Value} (hb : b ≠ a) : (xm_sf h a j v).2.2 b i = h.2.2 b i := by simp [xm_sf, hb]
theorem xq_ff {h : xm_H} {a j i : Nat} {v : Value} (hi : i ≠ j) : (xm_sf h a j v).2.2 a i = h.2.2 a i := by simp [xm_sf, updV, hi]
theorem upd_s {f : Nat → Int32} {j : Nat} {x : Int32} : upd f j x j = x := by simp [upd]
theorem upd_o {f : Nat → Int32} {i j : Nat} {x : Int32} (h : i ≠ j) : upd f j x i = f i := by simp [upd, h]
/-- into a method -/
theorem xq_in {E : xm_E} {d y : Nat} {as : List Value} {h : xm_H} {post : xm_Po} (hl : Nat.ble (lg_sl as).length (xe_ml E y) = true) (hg : xm_go E (xm_T E d) y post 0 (lv_args 0 as) [] h) : xm_T E (d + 1) y as h post := ⟨Nat.le_of_ble_eq_true hl, hg⟩
theorem xq_a0 {i : Nat} : lv_args i [] = [] := rfl
theorem xq_aI {i : Nat} {x : Int32} {r : List Value} : lv_args i (.int x :: r) = (i, .int x) :: lv_args (i + 1) r := rfl
theorem xq_aJ {i : Nat} {x : Int64} {r : List Value} : lv_args i (.long x :: r) = (i, .long x) :: lv_args (i + 2) r := rfl
theorem xq_aR {i x : Nat} {r : List Value} : lv_args i (.ref x :: r) = (i, .ref x) :: lv_args (i + 1) r := rfl
/-- the same method, more or fewer locals known; another end -/
theorem xq_post {E : xm_E} {d y : Nat} {as : List Value} {h : xm_H} {p q : xm_Po} (h1 : xm_T E d y as h p) (hpq : ∀ r h', p r h' → q r h') : xm_T E d y as h q := xm_T_mono d d (Nat.le_refl _) y as h p q hpq h1
