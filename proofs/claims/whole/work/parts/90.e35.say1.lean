/-! ===== say: the words of a text ===== -/
abbrev sB (b : Nat) : Prop := b = 10 ∨ b = 32
abbrev sP (b : Nat) : Prop := 32 < b ∧ b < 127 ∧ b ≠ 61 ∧ b ≠ 40 ∧ b ≠ 41
def skB (t : List Nat) : Nat → Nat → Nat
  | 0, p => p
  | n + 1, p => if p < t.length ∧ sB (t.getD p 0) then skB t n (p + 1) else p
def skP (t : List Nat) : Nat → Nat → Nat
  | 0, p => p
  | n + 1, p => if p < t.length ∧ sP (t.getD p 0) then skP t n (p + 1) else p
/-- where the next word begins -/
def tkF (t : List Nat) (p : Nat) : Nat := skB t (t.length - p) p
/-- where a row of plain letters ends -/
def tkP (t : List Nat) (p : Nat) : Nat := skP t (t.length - p) p
theorem tkF_s {t : List Nat} {p : Nat} (h1 : p < t.length) (h2 : sB (t.getD p 0)) : tkF t p = tkF t (p + 1) := by
  unfold tkF
  rw [show t.length - p = t.length - (p + 1) + 1 by omega, skB, if_pos ⟨h1, h2⟩]
theorem tkF_e {t : List Nat} {p : Nat} (h : ¬ (p < t.length ∧ sB (t.getD p 0))) : tkF t p = p := by
  unfold tkF
  cases t.length - p with
  | zero => rfl
  | succ n => rw [skB, if_neg h]
theorem tkP_s {t : List Nat} {p : Nat} (h1 : p < t.length) (h2 : sP (t.getD p 0)) : tkP t p = tkP t (p + 1) := by
  unfold tkP
  rw [show t.length - p = t.length - (p + 1) + 1 by omega, skP, if_pos ⟨h1, h2⟩]
theorem tkP_e {t : List Nat} {p : Nat} (h : ¬ (p < t.length ∧ sP (t.getD p 0))) : tkP t p = p := by
  unfold tkP
  cases t.length - p with
  | zero => rfl
  | succ n => rw [skP, if_neg h]
theorem skB_b (t : List Nat) : ∀ (n p : Nat), p ≤ skB t n p ∧ (p ≤ t.length → skB t n p ≤ t.length)
  | 0, p => ⟨Nat.le_refl _, fun h => h⟩
  | n + 1, p => by
    rw [skB]
    split
    · rename_i h
      have := skB_b t n (p + 1)
      exact ⟨by omega, fun _ => this.2 (by omega)⟩
    · exact ⟨Nat.le_refl _, fun h => h⟩
theorem skP_b (t : List Nat) : ∀ (n p : Nat), p ≤ skP t n p ∧ (p ≤ t.length → skP t n p ≤ t.length)
  | 0, p => ⟨Nat.le_refl _, fun h => h⟩
  | n + 1, p => by
    rw [skP]
    split
    · rename_i h
      have := skP_b t n (p + 1)
      exact ⟨by omega, fun _ => this.2 (by omega)⟩
    · exact ⟨Nat.le_refl _, fun h => h⟩
theorem tkF_b (t : List Nat) (p : Nat) : p ≤ tkF t p ∧ (p ≤ t.length → tkF t p ≤ t.length) := skB_b t _ p
theorem tkP_b (t : List Nat) (p : Nat) : p ≤ tkP t p ∧ (p ≤ t.length → tkP t p ≤ t.length) := skP_b t _ p
/-- where the next word ends -/
def tkE (t : List Nat) (p : Nat) : Nat := if t.length ≤ tkF t p then tkF t p else if sP (t.getD (tkF t p) 0) then tkP t (tkF t p + 1) else tkF t p + 1
/-- what it is: 0 the end, 1 strange, 2 =, 3 (, 4 ), 5 a row of plain letters -/
def tkK (t : List Nat) (p : Nat) : Nat := if t.length ≤ tkF t p then 0 else if t.getD (tkF t p) 0 = 61 then 2 else if t.getD (tkF t p) 0 = 40 then 3 else if t.getD (tkF t p) 0 = 41 then 4 else if sP (t.getD (tkF t p) 0) then 5 else 1
theorem tk_b {t : List Nat} {p : Nat} (hp : p ≤ t.length) : p ≤ tkF t p ∧ tkF t p ≤ tkE t p ∧ tkE t p ≤ t.length ∧ (tkK t p ≠ 0 → tkF t p < tkE t p) := by
  have h1 := tkF_b t p
  have h2 := h1.2 hp
  have h3 := tkP_b t (tkF t p + 1)
  unfold tkE tkK
  split
  · exact ⟨h1.1, Nat.le_refl _, h2, fun z => absurd rfl z⟩
  · split
    · have := h3.2 (by omega)
      exact ⟨h1.1, by omega, this, fun _ => by omega⟩
    · exact ⟨h1.1, by omega, by omega, fun _ => by omega⟩
theorem tk_0 {t : List Nat} {p : Nat} (h : t.length ≤ tkF t p) : tkK t p = 0 ∧ tkE t p = tkF t p := by
  unfold tkE tkK
  rw [if_pos h, if_pos h]
  exact ⟨rfl, rfl⟩
theorem tk_2 {t : List Nat} {p : Nat} (h : tkF t p < t.length) (e : t.getD (tkF t p) 0 = 61) : tkK t p = 2 ∧ tkE t p = tkF t p + 1 := by
  have hn : ¬ t.length ≤ tkF t p := by omega
  unfold tkE tkK
  exact ⟨by rw [if_neg hn, if_pos e], by rw [if_neg hn, if_neg (by rw [e]; decide)]⟩
theorem tk_3 {t : List Nat} {p : Nat} (h : tkF t p < t.length) (e : t.getD (tkF t p) 0 = 40) : tkK t p = 3 ∧ tkE t p = tkF t p + 1 := by
  have hn : ¬ t.length ≤ tkF t p := by omega
  unfold tkE tkK
  exact ⟨by rw [if_neg hn, if_neg (by rw [e]; decide), if_pos e], by rw [if_neg hn, if_neg (by rw [e]; decide)]⟩
theorem tk_4 {t : List Nat} {p : Nat} (h : tkF t p < t.length) (e : t.getD (tkF t p) 0 = 41) : tkK t p = 4 ∧ tkE t p = tkF t p + 1 := by
  have hn : ¬ t.length ≤ tkF t p := by omega
  unfold tkE tkK
  exact ⟨by rw [if_neg hn, if_neg (by rw [e]; decide), if_neg (by rw [e]; decide), if_pos e], by rw [if_neg hn, if_neg (by rw [e]; decide)]⟩
theorem tk_5 {t : List Nat} {p : Nat} (h : tkF t p < t.length) (e : sP (t.getD (tkF t p) 0)) : tkK t p = 5 ∧ tkE t p = tkP t (tkF t p + 1) := by
  have hn : ¬ t.length ≤ tkF t p := by omega
  unfold tkE tkK
  exact ⟨by rw [if_neg hn, if_neg e.2.2.1, if_neg e.2.2.2.1, if_neg e.2.2.2.2, if_pos e], by rw [if_neg hn, if_pos e]⟩
theorem tk_1 {t : List Nat} {p : Nat} (h : tkF t p < t.length) (e : ¬ sP (t.getD (tkF t p) 0)) (e2 : t.getD (tkF t p) 0 ≠ 61) (e3 : t.getD (tkF t p) 0 ≠ 40) (e4 : t.getD (tkF t p) 0 ≠ 41) : tkK t p = 1 ∧ tkE t p = tkF t p + 1 := by
  have hn : ¬ t.length ≤ tkF t p := by omega
  unfold tkE tkK
  exact ⟨by rw [if_neg hn, if_neg e2, if_neg e3, if_neg e4, if_neg e], by rw [if_neg hn, if_neg e]⟩
theorem tkK_le (t : List Nat) (p : Nat) : tkK t p ≤ 5 := by
  unfold tkK
  split
  · decide
  split
  · decide
  split
  · decide
  split
  · decide
  split <;> decide
theorem tkP_all {t : List Nat} : ∀ (n p : Nat), p + n = t.length → ∀ i, p ≤ i → i < tkP t p → i < t.length ∧ sP (t.getD i 0) := by
  intro n
  induction n with
  | zero =>
    intro p hp i h1 h2
    rw [tkP_e (by omega)] at h2
    omega
  | succ n ih =>
    intro p hp i h1 h2
    by_cases e : sP (t.getD p 0)
    · rw [tkP_s (by omega) e] at h2
      by_cases q : i = p
      · subst q; exact ⟨by omega, e⟩
      · exact ih (p + 1) (by omega) i (by omega) h2
    · rw [tkP_e (fun z => e z.2)] at h2
      omega
/-- a word's letters -/
def wrd (t : List Nat) (f e : Nat) : List Nat := (t.drop f).take (e - f)
theorem wrd_len {t : List Nat} {f e : Nat} (h : e ≤ t.length) : (wrd t f e).length = e - f := by
  unfold wrd
  rw [List.length_take, List.length_drop]
  omega
theorem wrd_s {t : List Nat} {f e : Nat} (h1 : f ≤ e) (h2 : e < t.length) : wrd t f (e + 1) = wrd t f e ++ [t.getD e 0] := by
  unfold wrd
  rw [show e + 1 - f = e - f + 1 by omega, List.take_add_one]
  congr 1
  rw [List.getElem?_drop, show f + (e - f) = e by omega, List.getElem?_eq_getElem h2, List.getD_eq_getElem?_getD, List.getElem?_eq_getElem h2]
  rfl
theorem wrd_0 (t : List Nat) (f : Nat) : wrd t f f = [] := by
  unfold wrd
  rw [Nat.sub_self, List.take_zero]
theorem wrd_g {t : List Nat} {f e i : Nat} (h : i < e - f) : (wrd t f e).getD i 0 = t.getD (f + i) 0 := by
  unfold wrd
  rw [List.getD_eq_getElem?_getD, List.getElem?_take_of_lt h, List.getElem?_drop, List.getD_eq_getElem?_getD]
abbrev lo (b : Nat) : Prop := 97 ≤ b ∧ b ≤ 122
abbrev dg (b : Nat) : Prop := 48 ≤ b ∧ b ≤ 57
/-- a row of letters that can be a name or a word of the tongue -/
abbrev isW (w : List Nat) : Prop := w.length ≤ 8 ∧ lo (w.getD 0 0) ∧ ∀ x ∈ w, lo x ∨ dg x
/-- the word of letters that comes next, if it is one -/
def wdO (t : List Nat) (p : Nat) : Option (List Nat) := if tkK t p = 5 ∧ isW (wrd t (tkF t p) (tkE t p)) then some (wrd t (tkF t p) (tkE t p)) else none
theorem wdO_W {t : List Nat} {p : Nat} {w : List Nat} (h : wdO t p = some w) : tkK t p = 5 ∧ isW w ∧ w = wrd t (tkF t p) (tkE t p) := by
  unfold wdO at h
  split at h
  · rename_i q
    cases h
    exact ⟨q.1, q.2, rfl⟩
  · cases h
/-- a word's number in base B -/
def gv (B : Nat) (g : Nat → Nat) (w : List Nat) : Nat := w.foldl (fun a b => B * a + g b) 0
theorem gv_s (B : Nat) (g : Nat → Nat) (w : List Nat) (b : Nat) : gv B g (w ++ [b]) = B * gv B g w + g b := by
  unfold gv
  rw [List.foldl_append]
  rfl
theorem gv_inj {B : Nat} {g : Nat → Nat} {D : Nat → Prop} (hg : ∀ x, D x → 1 ≤ g x ∧ g x < B) (hi : ∀ x y, D x → D y → g x = g y → x = y) : ∀ (n : Nat) (w w' : List Nat), w.length ≤ n → (∀ x ∈ w, D x) → (∀ x ∈ w', D x) → gv B g w = gv B g w' → w = w' := by
  intro n
  induction n with
  | zero =>
    intro w w' hn h1 h2 he
    have : w = [] := List.length_eq_zero_iff.mp (by omega)
    subst this
    rcases List.eq_nil_or_concat w' with rfl | ⟨v, b, rfl⟩
    · rfl
    · rw [List.concat_eq_append, gv_s] at he
      have := (hg b (h2 b (by simp))).1
      have e0 : gv B g [] = 0 := rfl
      omega
  | succ n ih =>
    intro w w' hn h1 h2 he
    rcases List.eq_nil_or_concat w with rfl | ⟨u, a, rfl⟩
    · rcases List.eq_nil_or_concat w' with rfl | ⟨v, b, rfl⟩
      · rfl
      · rw [List.concat_eq_append, gv_s] at he
        have := (hg b (h2 b (by simp))).1
        have e0 : gv B g [] = 0 := rfl
        omega
    · rcases List.eq_nil_or_concat w' with rfl | ⟨v, b, rfl⟩
      · rw [List.concat_eq_append, gv_s] at he
        have := (hg a (h1 a (by simp))).1
        have e0 : gv B g [] = 0 := rfl
        omega
      · rw [List.concat_eq_append] at *
        rw [List.concat_eq_append] at *
        rw [gv_s, gv_s] at he
        have ga := (hg a (h1 a (by simp))).2
        have gb := (hg b (h2 b (by simp))).2
        have e1 : g a = g b := by
          have := congrArg (· % B) he
          simp only [Nat.mul_add_mod, Nat.mod_eq_of_lt ga, Nat.mod_eq_of_lt gb] at this
          exact this
        have e2 : gv B g u = gv B g v := by
          have : B * gv B g u = B * gv B g v := by omega
          exact Nat.eq_of_mul_eq_mul_left (by omega) this
        have e3 := hi a b (h1 a (by simp)) (h2 b (by simp)) e1
        rw [e3, ih u v (by simp at hn; omega) (fun x hx => h1 x (by simp [hx])) (fun x hx => h2 x (by simp [hx])) e2]
theorem gv_lt {B : Nat} {g : Nat → Nat} {D : Nat → Prop} (hB : 0 < B) (hg : ∀ x, D x → g x < B) : ∀ (n : Nat) (w : List Nat), w.length ≤ n → (∀ x ∈ w, D x) → gv B g w < B ^ n := by
  intro n
  induction n with
  | zero =>
    intro w hn _
    have : w = [] := List.length_eq_zero_iff.mp (by omega)
    subst this
    show 0 < B ^ 0
    rw [Nat.pow_zero]
    decide
  | succ n ih =>
    intro w hn h1
    rcases List.eq_nil_or_concat w with rfl | ⟨u, a, rfl⟩
    · exact Nat.pow_pos hB
    · rw [List.concat_eq_append, gv_s]
      have ga := hg a (h1 a (by simp))
      have h2 := ih u (by simp at hn; omega) (fun x hx => h1 x (by simp [hx]))
      have h3 : B * (gv B g u + 1) ≤ B * B ^ n := Nat.mul_le_mul_left _ h2
      rw [Nat.mul_add, Nat.mul_one] at h3
      rw [Nat.pow_succ, Nat.mul_comm (B ^ n)]
      omega
def ltr (b : Nat) : Nat := if 97 ≤ b ∧ b ≤ 122 then b - 96 else if 48 ≤ b ∧ b ≤ 57 then b - 21 else 0
def v8 (w : List Nat) : Nat := gv 256 (fun x => x) w
def v6 (w : List Nat) : Nat := gv 64 ltr w
theorem v8_lt {w : List Nat} (h : isW w) : v8 w < 2 ^ 64 := by
  have := gv_lt (B := 256) (g := fun x => x) (D := fun x => lo x ∨ dg x) (by decide) (fun x hx => by show x < 256; omega) 8 w h.1 h.2.2
  exact Nat.lt_of_lt_of_le this (by decide)
theorem ltr_l {x : Nat} (h : lo x) : ltr x = x - 96 := if_pos h
theorem ltr_d {x : Nat} (h : dg x) : ltr x = x - 21 := by
  unfold ltr
  rw [if_neg (by omega), if_pos h]
theorem ltr_b {x : Nat} (h : lo x ∨ dg x) : 1 ≤ ltr x ∧ ltr x < 64 := by
  unfold ltr
  split
  · omega
  · split <;> omega
theorem v6_lt {w : List Nat} (h : isW w) : v6 w < 2 ^ 48 := by
  have := gv_lt (B := 64) (g := ltr) (D := fun x => lo x ∨ dg x) (by decide) (fun x hx => (ltr_b hx).2) 8 w h.1 h.2.2
  exact Nat.lt_of_lt_of_le this (by decide)
theorem v8_inj {w w' : List Nat} (h : isW w) (h' : isW w') (e : v8 w = v8 w') : w = w' :=
  gv_inj (B := 256) (g := fun x => x) (D := fun x => lo x ∨ dg x) (fun x hx => by show 1 ≤ x ∧ x < 256; omega) (fun x y _ _ e => e) 8 w w' h.1 h.2.2 h'.2.2 e
theorem v6_inj {w w' : List Nat} (h : isW w) (h' : isW w') (e : v6 w = v6 w') : w = w' :=
  gv_inj (B := 64) (g := ltr) (D := fun x => lo x ∨ dg x) (fun x hx => ltr_b hx) (fun x y hx hy e => by
    rcases hx with hx | hx <;> rcases hy with hy | hy
    · rw [ltr_l hx, ltr_l hy] at e; omega
    · rw [ltr_l hx, ltr_d hy] at e; omega
    · rw [ltr_d hx, ltr_l hy] at e; omega
    · rw [ltr_d hx, ltr_d hy] at e; omega) 8 w w' h.1 h.2.2 h'.2.2 e
theorem isW_ne {w : List Nat} (h : isW w) : w ≠ [] := by
  intro e
  subst e
  exact absurd h.2.1 (by decide)
theorem v6_pos {w : List Nat} (h : isW w) : v6 w ≠ 0 := by
  rcases List.eq_nil_or_concat w with rfl | ⟨u, a, rfl⟩
  · exact absurd rfl (isW_ne h)
  · unfold v6
    rw [List.concat_eq_append, gv_s]
    have := (ltr_b (h.2.2 a (by simp))).1
    omega
theorem v8_pos {w : List Nat} (h : isW w) : v8 w ≠ 0 := by
  rcases List.eq_nil_or_concat w with rfl | ⟨u, a, rfl⟩
  · exact absurd rfl (isW_ne h)
  · unfold v8
    rw [List.concat_eq_append, gv_s]
    have := h.2.2 a (by simp)
    omega
/-- the words of the tongue, and new -/
def twd (c : Nat) : List Nat := ([[99, 111, 109, 112], [99, 97, 115, 101], [112, 97, 105, 114], [108, 101, 102, 116], [114, 105, 103, 104, 116], [116, 97, 107, 101], [100, 114, 111, 112], [105, 100, 101, 110], [117, 110, 105, 116], [102, 97, 105, 108], [119, 105, 116, 110, 101, 115, 115], [104, 105, 100, 100, 101, 110], [106, 101, 116], [110, 101, 119]] : List (List Nat)).getD c []
theorem twd_v : ∀ c, c < 14 → xt_X9_TONGUE c = lN (v8 (twd c)) := by decide +kernel
theorem twd_W : ∀ c, c < 14 → isW (twd c) := by decide +kernel
def tgR (w : List Nat) : Nat → Nat → Option Nat
  | 0, _ => none
  | n + 1, c => if w = twd c then some c else tgR w n (c + 1)
/-- which word of the tongue it is -/
def tgI (w : List Nat) : Option Nat := tgR w 14 0
theorem tgR_lt {w : List Nat} : ∀ (n c k : Nat), tgR w n c = some k → k < c + n ∧ w = twd k
  | 0, _, _, h => by cases h
  | n + 1, c, k, h => by
    rw [tgR] at h
    split at h
    · rename_i e
      cases h
      exact ⟨by omega, e⟩
    · have := tgR_lt n (c + 1) k h
      exact ⟨by omega, this.2⟩
theorem tgI_lt {w : List Nat} {k : Nat} (h : tgI w = some k) : k < 14 := by have := (tgR_lt 14 0 k h).1; omega
def nmF (w : List Nat) : List (List Nat × Nat) → Option Nat
  | [] => none
  | q :: r => if q.1 = w then some q.2 else nmF w r
theorem nmF_mem {w : List Nat} {n : Nat} : ∀ {NL : List (List Nat × Nat)}, nmF w NL = some n → (w, n) ∈ NL
  | [], h => by cases h
  | q :: r, h => by
    rw [nmF] at h
    split at h
    · rename_i e
      cases h
      subst e
      exact List.mem_cons_self
    · exact List.mem_cons_of_mem _ (nmF_mem h)
theorem nmF_no {w : List Nat} : ∀ {NL : List (List Nat × Nat)}, nmF w NL = none → ∀ q ∈ NL, q.1 ≠ w
  | [], _, q, hq => nomatch hq
  | x :: r, h, q, hq => by
    rw [nmF] at h
    split at h
    · cases h
    · rename_i e
      rcases List.mem_cons.mp hq with rfl | z
      · exact e
      · exact nmF_no h q z
theorem nmF_of {w : List Nat} {n : Nat} : ∀ {NL : List (List Nat × Nat)}, (NL.map (·.1)).Nodup → (w, n) ∈ NL → nmF w NL = some n
  | [], _, h => nomatch h
  | q :: r, hd, h => by
    rw [nmF]
    rw [List.map_cons, List.nodup_cons] at hd
    rcases List.mem_cons.mp h with e | e
    · rw [if_pos (by rw [← e]), ← e]
    · split
      · rename_i q1
        exact absurd (List.mem_map.mpr ⟨_, e, q1.symm⟩) hd.1
      · exact nmF_of hd.2 e
theorem nmF_out {w : List Nat} : ∀ {NL : List (List Nat × Nat)}, (∀ q ∈ NL, q.1 ≠ w) → nmF w NL = none
  | [], _ => rfl
  | q :: r, h => by
    rw [nmF, if_neg (h q List.mem_cons_self)]
    exact nmF_out (fun x hx => h x (List.mem_cons_of_mem _ hx))
/-- what the class keeps of a word: its name's letters, its code -/
def wnV (t : List Nat) (p : Nat) : Nat := match wdO t p with
  | some w => if tgI w = none then v8 w else 0
  | none => 0
def wcV (t : List Nat) (p : Nat) : Option Nat := match wdO t p with
  | some w => tgI w
  | none => none
theorem l8_or {r b : Nat} (hr : r < 2 ^ 56) (hb : b < 256) : lN r <<< ((nI 8).toInt64 &&& 63) ||| lN b = lN (256 * r + b) := by
  rw [wb_shl _ (by decide), g_or (k := 8) rfl (by omega) (by omega)]
  congr 1
  omega
