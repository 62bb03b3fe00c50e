/-! ===== texts of values: what both write ===== -/
def dgt (x : Nat) : Nat := if x < 10 then 48 + x else 87 + x
def vd4 (v : Nat → Nat) (p : Nat) : Nat := 8 * v p + 4 * v (p + 1) + 2 * v (p + 2) + v (p + 3)
def vdg (v : Nat → Nat) (p : Nat) : Nat → List Nat
  | 0 => []
  | k + 1 => vdg v p k ++ [dgt (vd4 v (p + 4 * k))]
def vtx (v : Nat → Nat) : Ty → Nat → List Nat
  | .add a b, p => if ty_word (.add a b) = 1 then [48 + v p] else if v p = 0 then 76 :: vtx v a (p + 1 + (max (ty_w a) (ty_w b) - ty_w a)) else 82 :: vtx v b (p + 1 + (max (ty_w a) (ty_w b) - ty_w b))
  | .mul a b, p => if 4 ≤ ty_word (.mul a b) then 35 :: vdg v p (ty_word (.mul a b) / 4) else 40 :: (vtx v a p ++ 44 :: (vtx v b (p + ty_w a) ++ [41]))
  | _, _ => [85]
def itv (v : Nat → Nat) : List itm → Nat → List Nat
  | [], _ => []
  | .inl c :: q, p => c :: itv v q p
  | .inr t :: q, p => vtx v t p ++ itv v q (p + ty_w t)
/-- how wide what waits is -/
def wiT : List itm → Nat
  | [] => 0
  | .inl _ :: q => wiT q
  | .inr t :: q => ty_w t + wiT q
theorem ty_is1_w : ∀ (t : Ty), ty_ok t → ty_is1 t = true → ty_w t = 0
  | .add _ _, _, h => by simp [ty_is1] at h
  | .mul _ _, _, h => by simp [ty_is1] at h
  | .num _, _, _ => rfl
  | .natCast _, h, _ => absurd h (by simp [ty_ok])
  | .intCast _, h, _ => absurd h (by simp [ty_ok])
  | .var _, h, _ => absurd h (by simp [ty_ok])
  | .neg _, h, _ => absurd h (by simp [ty_ok])
  | .sub _ _, h, _ => absurd h (by simp [ty_ok])
  | .pow _ _, h, _ => absurd h (by simp [ty_ok])
theorem ty_word_w : ∀ (t : Ty), ty_ok t → 1 ≤ ty_word t → ty_w t = ty_word t
  | .add a b, h, hw => by
    simp only [ty_word] at hw ⊢
    by_cases e : (ty_is1 a && ty_is1 b) = true
    · rw [if_pos e]
      simp only [Bool.and_eq_true] at e
      simp only [ty_w, ty_is1_w a h.1 e.1, ty_is1_w b h.2 e.2]
      rfl
    · rw [if_neg e] at hw; omega
  | .mul a b, h, hw => by
    simp only [ty_word] at hw ⊢
    by_cases e : ty_eqb a b = true
    · rw [if_pos e] at hw ⊢
      have := (ty_eqb_iff h.1 h.2).mp e
      subst this
      have := ty_word_w a h.1 (by omega)
      simp only [ty_w]; omega
    · rw [if_neg e] at hw; omega
  | .num _, _, hw => by simp [ty_word] at hw
  | .natCast _, _, hw => by simp [ty_word] at hw
  | .intCast _, _, hw => by simp [ty_word] at hw
  | .var _, _, hw => by simp [ty_word] at hw
  | .neg _, _, hw => by simp [ty_word] at hw
  | .sub _ _, _, hw => by simp [ty_word] at hw
  | .pow _ _, _, hw => by simp [ty_word] at hw
theorem ty_word_le {t : Ty} (h : ty_ok t) : ty_word t ≤ ty_w t := by
  by_cases e : 1 ≤ ty_word t
  · rw [ty_word_w t h e]; exact Nat.le_refl _
  · omega
theorem ty_word_add (a b : Ty) : ty_word (.add a b) = 0 ∨ ty_word (.add a b) = 1 := by
  simp only [ty_word]; split
  · exact Or.inr rfl
  · exact Or.inl rfl
theorem ty_word_mul (a b : Ty) : ty_word (.mul a b) = 0 ∨ ty_word (.mul a b) = 2 ∨ (4 ≤ ty_word (.mul a b) ∧ ty_word (.mul a b) % 4 = 0) := by
  simp only [ty_word]
  split
  · have : ty_word a ≤ 1 ∨ ty_word a % 2 = 0 := by
      cases a with
      | add x y => rcases ty_word_add x y with z | z <;> rw [z] <;> simp
      | mul x y =>
        simp only [ty_word]; split
        · right; omega
        · left; omega
      | _ => left; simp [ty_word]
    omega
  · exact Or.inl rfl
theorem vd4_lt {v : Nat → Nat} (hv : ∀ p, v p < 2) (p : Nat) : vd4 v p < 16 := by
  have := hv p; have := hv (p + 1); have := hv (p + 2); have := hv (p + 3)
  unfold vd4; omega
theorem dgt_lt {x : Nat} (h : x < 16) : dgt x < 256 := by unfold dgt; split <;> omega
theorem vtx_pos (v : Nat → Nat) : ∀ (t : Ty) (p : Nat), 1 ≤ (vtx v t p).length
  | .add a b, p => by
    simp only [vtx]; split
    · simp
    · split <;> simp
  | .mul a b, p => by
    simp only [vtx]; split <;> simp
  | .num _, _ => Nat.le_refl _
  | .natCast _, _ => Nat.le_refl _
  | .intCast _, _ => Nat.le_refl _
  | .var _, _ => Nat.le_refl _
  | .neg _, _ => Nat.le_refl _
  | .sub _ _, _ => Nat.le_refl _
  | .pow _ _, _ => Nat.le_refl _
theorem vdg_lt {v : Nat → Nat} (hv : ∀ p, v p < 2) (p : Nat) : ∀ (k c : Nat), c ∈ vdg v p k → c < 256
  | 0, c, h => by simp [vdg] at h
  | k + 1, c, h => by
    simp only [vdg, List.mem_append, List.mem_cons, List.not_mem_nil, or_false] at h
    rcases h with h | rfl
    · exact vdg_lt hv p k c h
    · exact dgt_lt (vd4_lt hv _)
theorem vtx_lt {v : Nat → Nat} (hv : ∀ p, v p < 2) : ∀ (t : Ty) (p c : Nat), c ∈ vtx v t p → c < 256
  | .add a b, p, c, h => by
    simp only [vtx] at h
    split at h
    · have := hv p
      simp only [List.mem_cons, List.not_mem_nil, or_false] at h; omega
    · split at h <;> simp only [List.mem_cons] at h <;> rcases h with rfl | h
      · decide
      · exact vtx_lt hv a _ c h
      · decide
      · exact vtx_lt hv b _ c h
  | .mul a b, p, c, h => by
    simp only [vtx] at h
    split at h
    · simp only [List.mem_cons] at h
      rcases h with rfl | h
      · decide
      · exact vdg_lt hv _ _ c h
    · simp only [List.mem_cons, List.mem_append, List.not_mem_nil, or_false] at h
      rcases h with rfl | h | rfl | h | rfl
      · decide
      · exact vtx_lt hv a _ c h
      · decide
      · exact vtx_lt hv b _ c h
      · decide
  | .num _, _, c, h => by simp only [vtx, List.mem_cons, List.not_mem_nil, or_false] at h; subst h; decide
  | .natCast _, _, c, h => by simp only [vtx, List.mem_cons, List.not_mem_nil, or_false] at h; subst h; decide
  | .intCast _, _, c, h => by simp only [vtx, List.mem_cons, List.not_mem_nil, or_false] at h; subst h; decide
  | .var _, _, c, h => by simp only [vtx, List.mem_cons, List.not_mem_nil, or_false] at h; subst h; decide
  | .neg _, _, c, h => by simp only [vtx, List.mem_cons, List.not_mem_nil, or_false] at h; subst h; decide
  | .sub _ _, _, c, h => by simp only [vtx, List.mem_cons, List.not_mem_nil, or_false] at h; subst h; decide
  | .pow _ _, _, c, h => by simp only [vtx, List.mem_cons, List.not_mem_nil, or_false] at h; subst h; decide
