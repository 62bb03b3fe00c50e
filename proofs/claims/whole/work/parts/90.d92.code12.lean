/-! ===== definitions of jets: what greater pieces give ===== -/
theorem bb_join (a b M N : Nat) : bbits a M ++ bbits b N = bbits (a + b) (M * 2 ^ b + N % 2 ^ b) := by
  have hp := Nat.two_pow_pos b
  have hlt := Nat.mod_lt N hp
  rw [bbits_app a b, Nat.add_comm (M * 2 ^ b), Nat.add_mul_div_right _ _ hp, Nat.div_eq_of_lt hlt, Nat.zero_add]
  congr 1
  exact bb_cg (by rw [Nat.add_mul_mod_self_right, Nat.mod_mod])
theorem ad_pure {w : Nat} {f F : gFn} (hf : pSp 0 w f) (hr : rpS w f F) : pSp 0 (2 * w) F := by
  intro c x y hc hx hy
  obtain ⟨x1, x0, rfl, a1, a0⟩ := li_s2 (x := x) (w := w) (by omega)
  obtain ⟨y1, y0, rfl, b1, b0⟩ := li_s2 (x := y) (w := w) (by omega)
  have l0 := bnum_lt c; have l1 := bnum_lt x0; have l2 := bnum_lt y0
  rw [hc] at l0; rw [a0] at l1; rw [b0] at l2
  rw [hr c x1 x0 y1 y0 hc a1 a0 b1 b0, hf c x0 y0 hc a0 b0, bbits_app 1 w, li_ka (by rw [bbits_len]), li_da (by rw [bbits_len]), hf _ x1 y1 (bbits_len _ _) a1 b1, bb_join, bnum_bbits, bnum_app, bnum_app, a0, b0, show 1 + w + w = 1 + 2 * w by omega]
  have hp := Nat.two_pow_pos w
  generalize 2 ^ w = W at *
  generalize bnum c = C at *; generalize bnum x0 = X0 at *; generalize bnum y0 = Y0 at *; generalize bnum x1 = X1 at *; generalize bnum y1 = Y1 at *
  have hd := Nat.div_add_mod (C + X0 + Y0) W
  have hq : (C + X0 + Y0) / W < 2 := Nat.div_lt_of_lt_mul (by omega)
  rw [Nat.mod_eq_of_lt (show (C + X0 + Y0) / W < 2 ^ 1 from hq)]
  generalize (C + X0 + Y0) / W = Q at *
  congr 1
  rw [Nat.add_mul, Nat.add_mul]
  have : W * Q = Q * W := Nat.mul_comm _ _
  omega
theorem sb_pure {w : Nat} {f F : gFn} (hf : pSp 1 w f) (hr : rpS w f F) : pSp 1 (2 * w) F := by
  intro c x y hc hx hy
  obtain ⟨x1, x0, rfl, a1, a0⟩ := li_s2 (x := x) (w := w) (by omega)
  obtain ⟨y1, y0, rfl, b1, b0⟩ := li_s2 (x := y) (w := w) (by omega)
  have l0 := bnum_lt c; have l1 := bnum_lt x0; have l2 := bnum_lt y0; have l3 := bnum_lt x1; have l4 := bnum_lt y1
  rw [hc] at l0; rw [a0] at l1; rw [b0] at l2; rw [a1] at l3; rw [b1] at l4
  rw [hr c x1 x0 y1 y0 hc a1 a0 b1 b0, hf c x0 y0 hc a0 b0, bbits_app 1 w, li_ka (by rw [bbits_len]), li_da (by rw [bbits_len]), hf _ x1 y1 (bbits_len _ _) a1 b1, bb_join, bnum_bbits, bnum_app, bnum_app, a0, b0, show 1 + w + w = 1 + 2 * w by omega]
  have hp := Nat.two_pow_pos w
  have e2 : 2 ^ (w + 1) = 2 * 2 ^ w := by rw [Nat.pow_succ]; omega
  have e3 : 2 ^ (2 * w + 1) = 2 * (2 ^ w * 2 ^ w) := by rw [Nat.pow_succ, Nat.two_mul, Nat.pow_add]; omega
  rw [e2, e3]
  generalize 2 ^ w = W at *
  generalize bnum c = C at *; generalize bnum x0 = X0 at *; generalize bnum y0 = Y0 at *; generalize bnum x1 = X1 at *; generalize bnum y1 = Y1 at *
  have hd := Nat.div_add_mod (X0 + 2 * W - Y0 - C) W
  have hq : (X0 + 2 * W - Y0 - C) / W < 3 := Nat.div_lt_of_lt_mul (by omega)
  have hq1 : 1 ≤ (X0 + 2 * W - Y0 - C) / W := (Nat.one_le_div_iff hp).mpr (by omega)
  have hm := Nat.mod_lt (X0 + 2 * W - Y0 - C) hp
  congr 1
  have m1 : Y1 * W ≤ W * W - W := by
    have := Nat.mul_le_mul_right W (show Y1 ≤ W - 1 by omega)
    rw [Nat.sub_mul, Nat.one_mul] at this
    exact this
  have hww : W ≤ W * W := Nat.le_mul_self W
  rcases (by omega : (X0 + 2 * W - Y0 - C) / W = 1 ∨ (X0 + 2 * W - Y0 - C) / W = 2) with e | e
  · rw [e] at hd ⊢
    rw [show 1 % 2 ^ 1 = 1 from rfl, Nat.sub_mul, Nat.sub_mul, Nat.add_mul, Nat.mul_assoc, Nat.one_mul]
    omega
  · rw [e] at hd ⊢
    rw [show 2 % 2 ^ 1 = 0 from rfl, Nat.sub_mul, Nat.sub_mul, Nat.add_mul, Nat.mul_assoc, Nat.zero_mul]
    omega
theorem mu_lt {x y z v W : Nat} (hx : x < W) (hy : y < W) (hz : z < W) (hv : v < W) : x * y + z + v < W * W := by
  obtain ⟨u, rfl⟩ : ∃ u, W = u + 1 := ⟨W - 1, by omega⟩
  have h1 := Nat.mul_le_mul (show x ≤ u by omega) (show y ≤ u by omega)
  have h2 : (u + 1) * (u + 1) = u * u + 2 * u + 1 := by rw [Nat.add_mul, Nat.mul_add]; omega
  omega
theorem mu_eq {W x1 x0 y1 y0 z1 z0 v1 v0 qa ra qb rb qc rc : Nat} (ea : W * qa + ra = x0 * y0 + z0 + v0) (eb : W * qb + rb = x1 * y0 + z1 + qa) (ec : W * qc + rc = x0 * y1 + v1 + rb) : (x1 * y1 + qb + qc) * (W * W) + (rc * W + ra) = (x1 * W + x0) * (y1 * W + y0) + (z1 * W + z0) + (v1 * W + v0) := by
  grind
theorem md_ww {C W r : Nat} (hr : r < W) : (C * W + r) % (W * W) = C % W * W + r := by
  have hp : 0 < W := by omega
  have h := Nat.div_add_mod C W
  have e : C * W + r = (C % W * W + r) + W * W * (C / W) := by
    have e1 : C * W = (W * (C / W) + C % W) * W := by rw [h]
    rw [e1, Nat.add_mul, show W * (C / W) * W = W * W * (C / W) by rw [Nat.mul_assoc, Nat.mul_comm (C / W) W, ← Nat.mul_assoc]]
    omega
  have hm := Nat.mod_lt C hp
  have h1 := Nat.mul_le_mul_right W (show C % W ≤ W - 1 by omega)
  rw [Nat.sub_mul, Nat.one_mul] at h1
  have hww : W ≤ W * W := Nat.le_mul_self _
  rw [e, Nat.add_mul_mod_self_left, Nat.mod_eq_of_lt (by omega)]
theorem mu_pure {w : Nat} {f F : gFn} (hf : pSp 3 w f) (hr : prS w f F) : pSp 3 (2 * w) F := by
  intro x y z v hx hy hz hv
  obtain ⟨x1, x0, rfl, a1, a0⟩ := li_s2 (x := x) (w := w) (by omega)
  obtain ⟨y1, y0, rfl, b1, b0⟩ := li_s2 (x := y) (w := w) (by omega)
  obtain ⟨z1, z0, rfl, c1, c0⟩ := li_s2 (x := z) (w := w) (by omega)
  obtain ⟨v1, v0, rfl, d1, d0⟩ := li_s2 (x := v) (w := w) (by omega)
  have hb : ∀ N, bbits (2 * w) N = bbits w (N / 2 ^ w) ++ bbits w N := fun N => by rw [Nat.two_mul, bbits_app]
  have bl := bbits_len w
  rw [hr x1 x0 y1 y0 z1 z0 v1 v0 _ _ _ _ _ _ a1 a0 b1 b0 c1 c0 d1 d0 (bl _) (bl _) (bl _) (bl _) (bl _) (bl _) ((hf x0 y0 z0 v0 a0 b0 c0 d0).trans (hb _)) ((hf _ _ _ _ a1 b0 c1 (bl _)).trans (hb _)) ((hf _ _ _ _ a0 b1 d1 (bl _)).trans (hb _)), hf _ _ _ _ a1 b1 (bl _) (bl _)]
  simp only [bnum_bbits, bnum_app, a0, b0, c0, d0]
  have lt : ∀ l : List Bool, l.length = w → bnum l < 2 ^ w := fun l h => by have := bnum_lt l; rw [h] at this; exact this
  have p1 := lt x1 a1; have p2 := lt x0 a0; have p3 := lt y1 b1; have p4 := lt y0 b0; have p5 := lt z1 c1; have p6 := lt z0 c0; have p7 := lt v1 d1; have p8 := lt v0 d0
  have hp := Nat.two_pow_pos w
  have e2 : 2 ^ (2 * w) = 2 ^ w * 2 ^ w := by rw [Nat.two_mul, Nat.pow_add]
  generalize bnum x1 = X1 at *; generalize bnum x0 = X0 at *; generalize bnum y1 = Y1 at *; generalize bnum y0 = Y0 at *
  generalize bnum z1 = Z1 at *; generalize bnum z0 = Z0 at *; generalize bnum v1 = V1 at *; generalize bnum v0 = V0 at *
  have qA := Nat.div_lt_of_lt_mul (mu_lt p2 p4 p6 p8)
  rw [Nat.mod_eq_of_lt qA]
  have qB := Nat.div_lt_of_lt_mul (mu_lt p1 p4 p5 qA)
  rw [Nat.mod_eq_of_lt qB]
  have rB := Nat.mod_lt (X1 * Y0 + Z1 + (X0 * Y0 + Z0 + V0) / 2 ^ w) hp
  have qC := Nat.div_lt_of_lt_mul (mu_lt p2 p3 p7 rB)
  rw [Nat.mod_eq_of_lt qC]
  have ea := Nat.div_add_mod (X0 * Y0 + Z0 + V0) (2 ^ w)
  have eb := Nat.div_add_mod (X1 * Y0 + Z1 + (X0 * Y0 + Z0 + V0) / 2 ^ w) (2 ^ w)
  have ec := Nat.div_add_mod (X0 * Y1 + V1 + (X1 * Y0 + Z1 + (X0 * Y0 + Z0 + V0) / 2 ^ w) % 2 ^ w) (2 ^ w)
  have key := mu_eq ea eb ec
  have mA := Nat.mod_lt (X0 * Y0 + Z0 + V0) hp
  rw [bb_join w w, bb_join, show 2 * w + (w + w) = 2 * (2 * w) by omega]
  congr 1
  rw [← key, Nat.pow_add]
  congr 1
  exact md_ww mA
theorem z3_app {g : Bool → Bool → Bool → Bool} {a b c a' b' c' : List Bool} {w : Nat} (h1 : a.length = w) (h2 : b.length = w) (h3 : c.length = w) : z3 g (a ++ a') (b ++ b') (c ++ c') = z3 g a b c ++ z3 g a' b' c' := by
  unfold z3
  rw [List.zip_append (by omega), List.zipWith_append (by simp; omega)]
theorem lz_app : ∀ (a b : List Bool), lzL (a ++ b) = if a.any id then lzL a else a.length + lzL b
  | [], b => by simp
  | true :: a, b => by simp [lzL]
  | false :: a, b => by
    have := lz_app a b
    simp only [List.cons_append, lzL, this, List.any_cons, List.length_cons]
    by_cases h : a.any id = true
    · simp [h]
    · simp [h]; omega
theorem lz_le : ∀ a : List Bool, lzL a ≤ a.length
  | [] => Nat.le_refl _
  | true :: a => by simp [lzL]
  | false :: a => by have := lz_le a; simp [lzL]; omega
