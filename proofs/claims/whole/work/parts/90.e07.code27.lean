/-! ===== definitions of jets: words that are moved, as numbers ===== -/
theorem c_bit {c : List Bool} {j : Nat} (hc : c.length = 8) (hj : j < 8) : (c.getD (7 - j) false).toNat = bnum c / 2 ^ j % 2 := by
  have h := bn_tb hc (show 7 - j < 8 by omega) (show 7 - j < c.length by omega)
  rw [List.getD_eq_getElem?_getD, List.getElem?_eq_getElem (by omega), Option.getD_some, h, show 8 - 1 - (7 - j) = j by omega, Nat.testBit_eq_decide_div_mod_eq]
  have := Nat.mod_lt (bnum c / 2 ^ j) (show 0 < 2 by decide)
  by_cases e : bnum c / 2 ^ j % 2 = 1
  · simp [e]
  · simp [e]; omega
theorem c_mod {c : List Bool} {j : Nat} (hc : c.length = 8) (hj : j < 8) : bnum c % 2 ^ (j + 1) = bnum c % 2 ^ j + if c.getD (7 - j) false = false then 0 else 2 ^ j := by
  rw [Nat.mod_pow_succ, ← c_bit hc hj]
  cases c.getD (7 - j) false <;> simp
theorem sp_num {y : List Bool} {w k : Nat} (hy : y.length = w) (hk : k ≤ w) : bnum y = bnum (y.take k) * 2 ^ (w - k) + bnum (y.drop k) ∧ bnum (y.drop k) < 2 ^ (w - k) ∧ bnum (y.take k) < 2 ^ k := by
  refine ⟨?_, bn_lt (by simp; omega), bn_lt (by simp; omega)⟩
  have h := bnum_app (y.take k) (y.drop k)
  rw [List.take_append_drop, List.length_drop, hy] at h
  exact h
theorem sp_div {y : List Bool} {w k : Nat} (hy : y.length = w) (hk : k ≤ w) : bnum y / 2 ^ (w - k) = bnum (y.take k) := by
  obtain ⟨h1, h2, _⟩ := sp_num hy hk
  rw [h1, Nat.add_comm, Nat.add_mul_div_right _ _ (Nat.two_pow_pos _), Nat.div_eq_of_lt h2, Nat.zero_add]
theorem sp_mul {y : List Bool} {w k : Nat} (hy : y.length = w) (hk : k ≤ w) : bnum y * 2 ^ k % 2 ^ w = bnum (y.drop k) * 2 ^ k := by
  obtain ⟨h1, h2, _⟩ := sp_num hy hk
  have e : (2 : Nat) ^ w = 2 ^ (w - k) * 2 ^ k := by rw [← Nat.pow_add]; congr 1; omega
  rw [e, Nat.mul_mod_mul_right, h1, Nat.add_comm, Nat.add_mul_mod_self_right, Nat.mod_eq_of_lt h2]
theorem bn_shl {y : List Bool} {w s : Nat} (hy : y.length = w) (hs : s ≤ w) : (((y ++ List.replicate w false).drop s).take w).length = w ∧ bnum (((y ++ List.replicate w false).drop s).take w) = bnum y * 2 ^ s % 2 ^ w := by
  have e : ((y ++ List.replicate w false).drop s).take w = y.drop s ++ List.replicate s false := by
    rw [List.drop_append_of_le_length (by omega), List.take_append, li_kw (by simp; omega), List.length_drop, List.take_replicate]
    congr 2
    omega
  rw [e]
  refine ⟨by simp; omega, ?_⟩
  rw [bnum_app, bn_0, List.length_replicate, sp_mul hy hs, Nat.add_zero]
theorem bn_shr {y : List Bool} {w s : Nat} (hy : y.length = w) (hs : s ≤ w) : (((List.replicate w false ++ y).drop (w - s)).take w).length = w ∧ bnum (((List.replicate w false ++ y).drop (w - s)).take w) = bnum y / 2 ^ s := by
  have e : ((List.replicate w false ++ y).drop (w - s)).take w = List.replicate s false ++ y.take (w - s) := by
    rw [List.drop_append_of_le_length (by simp), List.drop_replicate, List.take_append, List.take_of_length_le (by simp), List.length_replicate]
    congr 2
    · omega
    · omega
  rw [e]
  refine ⟨by simp; omega, ?_⟩
  have := sp_div hy (show w - s ≤ w by omega)
  rw [show w - (w - s) = s by omega] at this
  rw [bnum_app, bn_0, Nat.zero_mul, Nat.zero_add, this]
theorem br_n32 {w lv : Nat} {c x : List Bool} (hw : 2 ^ lv = w) (hc : c.length = 8) (hx : x.length = w) : ∀ j, j ≤ 8 → (brS lv (bg32 w lv) true j c x).length = w ∧ bnum (brS lv (bg32 w lv) true j c x) = bnum x * 2 ^ (bnum c % 2 ^ j) % 2 ^ w
  | 0, _ => by
    refine ⟨hx, ?_⟩
    rw [Nat.pow_zero, Nat.mod_one, Nat.pow_zero, Nat.mul_one, Nat.mod_eq_of_lt (bn_lt hx)]
    rfl
  | j + 1, hj => by
    obtain ⟨l1, n1⟩ := br_n32 hw hc hx j (by omega)
    have e1 : brS lv (bg32 w lv) true (j + 1) c x = if c.getD (7 - j) false = false then brS lv (bg32 w lv) true j c x else bg32 w lv j (brS lv (bg32 w lv) true j c x) := if_pos (Or.inr rfl)
    rw [e1, c_mod hc (by omega)]
    generalize brS lv (bg32 w lv) true j c x = y at *
    by_cases e : c.getD (7 - j) false = false
    · rw [if_pos e, if_pos e, Nat.add_zero]; exact ⟨l1, n1⟩
    · rw [if_neg e, if_neg e]
      unfold bg32
      by_cases h : j < lv
      · rw [if_pos h]
        have hs : 2 ^ j ≤ w := by rw [← hw]; exact Nat.pow_le_pow_right (by decide) (by omega)
        obtain ⟨l2, n2⟩ := bn_shl l1 hs
        refine ⟨l2, ?_⟩
        rw [n2, n1, Nat.mod_mul_mod, Nat.mul_assoc, ← Nat.pow_add]
      · rw [if_neg h]
        refine ⟨by simp, ?_⟩
        have hs : w ≤ 2 ^ j := by rw [← hw]; exact Nat.pow_le_pow_right (by decide) (by omega)
        rw [bn_0, Nat.pow_add, ← Nat.mul_assoc]
        have e2 : (2 : Nat) ^ 2 ^ j = 2 ^ (2 ^ j - w) * 2 ^ w := by rw [← Nat.pow_add]; congr 1; omega
        rw [e2, ← Nat.mul_assoc, Nat.mul_mod_left]
theorem br_n33 {w lv : Nat} {c x : List Bool} (hw : 2 ^ lv = w) (hc : c.length = 8) (hx : x.length = w) : ∀ j, j ≤ 8 → (brS lv (bg33 w lv) true j c x).length = w ∧ bnum (brS lv (bg33 w lv) true j c x) = bnum x / 2 ^ (bnum c % 2 ^ j)
  | 0, _ => by
    refine ⟨hx, ?_⟩
    rw [Nat.pow_zero, Nat.mod_one, Nat.pow_zero, Nat.div_one]
    rfl
  | j + 1, hj => by
    obtain ⟨l1, n1⟩ := br_n33 hw hc hx j (by omega)
    have e1 : brS lv (bg33 w lv) true (j + 1) c x = if c.getD (7 - j) false = false then brS lv (bg33 w lv) true j c x else bg33 w lv j (brS lv (bg33 w lv) true j c x) := if_pos (Or.inr rfl)
    rw [e1, c_mod hc (by omega)]
    generalize brS lv (bg33 w lv) true j c x = y at *
    by_cases e : c.getD (7 - j) false = false
    · rw [if_pos e, if_pos e, Nat.add_zero]; exact ⟨l1, n1⟩
    · rw [if_neg e, if_neg e]
      unfold bg33
      by_cases h : j < lv
      · rw [if_pos h]
        have hs : 2 ^ j ≤ w := by rw [← hw]; exact Nat.pow_le_pow_right (by decide) (by omega)
        obtain ⟨l2, n2⟩ := bn_shr l1 hs
        refine ⟨l2, ?_⟩
        rw [n2, n1, Nat.div_div_eq_div_mul, ← Nat.pow_add]
      · rw [if_neg h]
        refine ⟨by simp, ?_⟩
        have hs : w ≤ 2 ^ j := by rw [← hw]; exact Nat.pow_le_pow_right (by decide) (by omega)
        rw [bn_0, Nat.div_eq_of_lt]
        exact Nat.lt_of_lt_of_le (bn_lt hx) (Nat.pow_le_pow_right (by decide) (by omega))
theorem rot_l {y : List Bool} {w s : Nat} (hy : y.length = w) (hs : s ≤ w) : ((y ++ y).drop s).take w = y.drop s ++ y.take s := by
  rw [List.drop_append_of_le_length (by omega), List.take_append, li_kw (by simp; omega), List.length_drop]
  congr 2
  omega
theorem rot_ll {y : List Bool} {w s t : Nat} (hy : y.length = w) (h : s + t ≤ w) : (y.drop s ++ y.take s).drop t ++ (y.drop s ++ y.take s).take t = y.drop (s + t) ++ y.take (s + t) := by
  rw [List.drop_append_of_le_length (by simp; omega), List.take_append_of_le_length (by simp; omega), List.drop_drop, List.append_assoc, ← List.take_add]
theorem rot_rr {y : List Bool} {w s t : Nat} (hy : y.length = w) (h : s + t ≤ w) : (y.drop (w - s) ++ y.take (w - s)).drop (w - t) ++ (y.drop (w - s) ++ y.take (w - s)).take (w - t) = y.drop (w - (s + t)) ++ y.take (w - (s + t)) := by
  have hl : (y.drop (w - s)).length = s := by simp; omega
  rw [li_db (by omega), li_kb (by omega), hl, li_tt (by omega), List.drop_take, ← List.append_assoc]
  congr 1
  · have e := List.take_append_drop (w - s - (w - t - s)) (y.drop (w - t - s))
    rw [List.drop_drop, show w - t - s + (w - s - (w - t - s)) = w - s by omega] at e
    rw [e]
    congr 1
    omega
  · congr 1
    omega
theorem br_l34 {w lv : Nat} {c x : List Bool} (hw : 2 ^ lv = w) (hc : c.length = 8) (hx : x.length = w) (h8 : lv ≤ 8) : ∀ j, j ≤ lv → brS lv (bg34 w lv) false j c x = x.drop (bnum c % 2 ^ j) ++ x.take (bnum c % 2 ^ j)
  | 0, _ => by
    rw [Nat.pow_zero, Nat.mod_one, List.drop_zero, List.take_zero, List.append_nil]
    rfl
  | j + 1, hj => by
    have n1 := br_l34 hw hc hx h8 j (by omega)
    have e1 : brS lv (bg34 w lv) false (j + 1) c x = if c.getD (7 - j) false = false then brS lv (bg34 w lv) false j c x else bg34 w lv j (brS lv (bg34 w lv) false j c x) := if_pos (Or.inl (by omega))
    have hs : 2 ^ (j + 1) ≤ w := by rw [← hw]; exact Nat.pow_le_pow_right (by decide) hj
    have hm := Nat.mod_lt (bnum c) (Nat.two_pow_pos j)
    rw [Nat.pow_succ] at hs
    rw [e1, c_mod hc (by omega), n1]
    by_cases e : c.getD (7 - j) false = false
    · rw [if_pos e, if_pos e, Nat.add_zero]
    · rw [if_neg e, if_neg e]
      unfold bg34
      rw [if_pos (by omega), rot_l (by simp; omega) (by omega), rot_ll hx (by omega)]
theorem br_l35 {w lv : Nat} {c x : List Bool} (hw : 2 ^ lv = w) (hc : c.length = 8) (hx : x.length = w) (h8 : lv ≤ 8) : ∀ j, j ≤ lv → brS lv (bg35 w lv) false j c x = x.drop (w - bnum c % 2 ^ j) ++ x.take (w - bnum c % 2 ^ j)
  | 0, _ => by
    rw [Nat.pow_zero, Nat.mod_one, Nat.sub_zero, List.drop_eq_nil_of_le (by omega), li_kw (by omega)]
    rfl
  | j + 1, hj => by
    have n1 := br_l35 hw hc hx h8 j (by omega)
    have e1 : brS lv (bg35 w lv) false (j + 1) c x = if c.getD (7 - j) false = false then brS lv (bg35 w lv) false j c x else bg35 w lv j (brS lv (bg35 w lv) false j c x) := if_pos (Or.inl (by omega))
    have hs : 2 ^ (j + 1) ≤ w := by rw [← hw]; exact Nat.pow_le_pow_right (by decide) hj
    have hm := Nat.mod_lt (bnum c) (Nat.two_pow_pos j)
    rw [Nat.pow_succ] at hs
    rw [e1, c_mod hc (by omega), n1]
    by_cases e : c.getD (7 - j) false = false
    · rw [if_pos e, if_pos e, Nat.add_zero]
    · rw [if_neg e, if_neg e]
      unfold bg35
      rw [if_pos (by omega), rot_l (by simp; omega) (by omega), rot_rr hx (by omega)]
theorem br_up {lv : Nat} {g : Nat → gFn} {c x : List Bool} : ∀ n, brS lv g false (lv + n) c x = brS lv g false lv c x
  | 0 => rfl
  | n + 1 => by
    rw [← br_up n]
    exact if_neg (by simp)
theorem br_32' {w lv : Nat} {c x : List Bool} (hw : 2 ^ lv = w) (hc : c.length = 8) (hx : x.length = w) : brS lv (bg32 w lv) true 8 c x = bbits w (if w ≤ bnum c then 0 else bnum x * 2 ^ bnum c) := by
  obtain ⟨l1, n1⟩ := br_n32 hw hc hx 8 (Nat.le_refl _)
  refine bbits_of l1 ?_
  rw [n1, Nat.mod_eq_of_lt (bn_lt hc)]
  split
  · rename_i h
    have e2 : (2 : Nat) ^ bnum c = 2 ^ (bnum c - w) * 2 ^ w := by rw [← Nat.pow_add]; congr 1; omega
    rw [e2, ← Nat.mul_assoc, Nat.mul_mod_left, Nat.zero_mod]
  · rfl
theorem br_33' {w lv : Nat} {c x : List Bool} (hw : 2 ^ lv = w) (hc : c.length = 8) (hx : x.length = w) : brS lv (bg33 w lv) true 8 c x = bbits w (if w ≤ bnum c then 0 else bnum x / 2 ^ bnum c) := by
  obtain ⟨l1, n1⟩ := br_n33 hw hc hx 8 (Nat.le_refl _)
  refine bb_self l1 ?_
  rw [n1, Nat.mod_eq_of_lt (bn_lt hc)]
  split
  · rename_i h
    rw [Nat.div_eq_of_lt (Nat.lt_of_lt_of_le (bn_lt hx) (Nat.pow_le_pow_right (by decide) h))]
  · rfl
theorem br_34' {w lv : Nat} {c x : List Bool} (hw : 2 ^ lv = w) (h8 : lv ≤ 8) (hc : c.length = 8) (hx : x.length = w) : brS lv (bg34 w lv) false 8 c x = bbits w (bnum x * 2 ^ (bnum c % w) + bnum x / 2 ^ (w - bnum c % w)) := by
  have e := br_up (lv := lv) (g := bg34 w lv) (c := c) (x := x) (8 - lv)
  rw [show lv + (8 - lv) = 8 by omega, br_l34 hw hc hx h8 lv (Nat.le_refl _), hw] at e
  rw [e]
  have hp : 0 < w := by rw [← hw]; exact Nat.two_pow_pos _
  have hs := Nat.mod_lt (bnum c) hp
  generalize bnum c % w = s at *
  refine bbits_of (by simp; omega) ?_
  have h1 := sp_mul hx (show s ≤ w by omega)
  have h2 := sp_div hx (show s ≤ w by omega)
  obtain ⟨_, h3, h4⟩ := sp_num hx (show s ≤ w by omega)
  rw [bnum_app, h2, Nat.add_mod, h1, List.length_take, show min s x.length = s by omega]
  have e2 : (2 : Nat) ^ w = 2 ^ (w - s) * 2 ^ s := by rw [← Nat.pow_add]; congr 1; omega
  have h5 := Nat.mul_le_mul_right (2 ^ s) (show bnum (x.drop s) ≤ 2 ^ (w - s) - 1 by omega)
  rw [Nat.sub_mul, Nat.one_mul, ← e2] at h5
  have h6 : 2 ^ s ≤ 2 ^ w := Nat.pow_le_pow_right (by decide) (by omega)
  rw [Nat.mod_eq_of_lt (show bnum (x.take s) < 2 ^ w by omega), Nat.mod_eq_of_lt (by omega)]
theorem br_35' {w lv : Nat} {c x : List Bool} (hw : 2 ^ lv = w) (h8 : lv ≤ 8) (hc : c.length = 8) (hx : x.length = w) : brS lv (bg35 w lv) false 8 c x = bbits w (bnum x / 2 ^ (bnum c % w) + bnum x * 2 ^ (w - bnum c % w)) := by
  have e := br_up (lv := lv) (g := bg35 w lv) (c := c) (x := x) (8 - lv)
  rw [show lv + (8 - lv) = 8 by omega, br_l35 hw hc hx h8 lv (Nat.le_refl _), hw] at e
  rw [e]
  have hp : 0 < w := by rw [← hw]; exact Nat.two_pow_pos _
  have hs := Nat.mod_lt (bnum c) hp
  generalize bnum c % w = s at *
  refine bbits_of (by simp; omega) ?_
  have h1 := sp_mul hx (show w - s ≤ w by omega)
  have h2 := sp_div hx (show w - s ≤ w by omega)
  obtain ⟨_, h3, h4⟩ := sp_num hx (show w - s ≤ w by omega)
  rw [show w - (w - s) = s by omega] at h2 h3
  rw [bnum_app, h2, Nat.add_comm (bnum (x.take (w - s))), Nat.add_mod, h1, List.length_take, show min (w - s) x.length = w - s by omega]
  have e2 : (2 : Nat) ^ w = 2 ^ s * 2 ^ (w - s) := by rw [← Nat.pow_add]; congr 1; omega
  have h5 := Nat.mul_le_mul_right (2 ^ (w - s)) (show bnum (x.drop (w - s)) ≤ 2 ^ s - 1 by omega)
  rw [Nat.sub_mul, Nat.one_mul, ← e2] at h5
  have h6 : 2 ^ (w - s) ≤ 2 ^ w := Nat.pow_le_pow_right (by decide) (by omega)
  rw [Nat.mod_eq_of_lt (show bnum (x.take (w - s)) < 2 ^ w by omega), Nat.mod_eq_of_lt (by omega)]
