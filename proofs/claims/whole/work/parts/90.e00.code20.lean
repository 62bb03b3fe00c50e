/-! ===== definitions of jets: rows of bits as numbers, once more ===== -/
theorem bn_any : ∀ x : List Bool, x.any id = decide (bnum x ≠ 0)
  | [] => rfl
  | b :: x => by
    have ih := bn_any x
    have hp := Nat.two_pow_pos x.length
    rw [List.any_cons, ih, bnum_cons]
    cases b
    · simp
    · simp
theorem bn_all : ∀ x : List Bool, x.all id = decide (bnum x = 2 ^ x.length - 1)
  | [] => rfl
  | b :: x => by
    have ih := bn_all x
    have hp := Nat.two_pow_pos x.length
    have hl := bnum_lt x
    rw [List.all_cons, ih, bnum_cons, List.length_cons, Nat.pow_succ]
    cases b
    · simp; omega
    · simp
      constructor <;> intro h <;> omega
theorem b1_d (p : Prop) [Decidable p] : bbits 1 (if p then 1 else 0) = [decide p] := by
  by_cases h : p <;> simp [h, bbits]
theorem bn_eq {x y : List Bool} (h : x.length = y.length) : decide (x = y) = decide (bnum x = bnum y) := by
  by_cases e : x = y
  · subst e; simp
  · have : bnum x ≠ bnum y := fun z => e (bnum_inj h z)
    simp [e, this]
theorem bb_self {x : List Bool} {w N : Nat} (hx : x.length = w) (h : bnum x = N) : x = bbits w N := by rw [← h, ← hx]; exact (bbits_bnum x).symm
theorem bn_flip {x : List Bool} {w : Nat} (hx : x.length = w) (hw : 1 ≤ w) : bnum ((x.take 1).map not ++ x.drop 1) = (bnum x + 2 ^ (w - 1)) % 2 ^ w := by
  obtain ⟨b, y, rfl⟩ : ∃ b y, x = b :: y := by cases x <;> simp at * <;> omega
  have hy : y.length = w - 1 := by simp at hx; omega
  have hl := bnum_lt y
  have e : (2 : Nat) ^ w = 2 * 2 ^ (w - 1) := by rw [← Nat.pow_succ']; congr 1; omega
  simp only [List.take_succ_cons, List.take_zero, List.drop_succ_cons, List.drop_zero, List.map_cons, List.map_nil, List.cons_append, List.nil_append, bnum_cons]
  rw [hy] at *
  rw [e]
  generalize 2 ^ (w - 1) = W at *
  cases b
  · simp; rw [Nat.mod_eq_of_lt (by omega)]; omega
  · simp
    rw [show W + bnum y + W = bnum y + 2 * W by omega, Nat.add_mod_right, Nat.mod_eq_of_lt (by omega)]
theorem bb_map {x : List Bool} {w : Nat} (hx : x.length = w) : x.map not = bbits w (bnum x ^^^ (2 ^ w - 1)) := by
  refine List.ext_getElem (by rw [bbits_len, List.length_map, hx]) (fun i h1 h2 => ?_)
  rw [List.length_map] at h1
  have hi : i < w := by omega
  have e1 := bb_tb (n := w) (x := bnum x ^^^ (2 ^ w - 1)) hi
  rw [List.getD_eq_getElem?_getD, List.getElem?_eq_getElem h2, Option.getD_some] at e1
  rw [e1, Nat.testBit_xor, Nat.testBit_two_pow_sub_one, List.getElem_map]
  have e2 := bb_tb (n := w) (x := bnum x) hi
  rw [show bbits w (bnum x) = x by rw [← hx]; exact bbits_bnum x, List.getD_eq_getElem?_getD, List.getElem?_eq_getElem (by omega), Option.getD_some] at e2
  rw [e2, show decide (w - 1 - i < w) = true by simp; omega, Bool.xor_true]
theorem bn_tb {x : List Bool} {w i : Nat} (hx : x.length = w) (hi : i < w) (h : i < x.length) : x[i] = (bnum x).testBit (w - 1 - i) := by
  have e2 := bb_tb (n := w) (x := bnum x) hi
  rw [show bbits w (bnum x) = x by rw [← hx]; exact bbits_bnum x, List.getD_eq_getElem?_getD, List.getElem?_eq_getElem h, Option.getD_some] at e2
  exact e2
theorem bb_ge {w N i : Nat} (hi : i < w) (h : i < (bbits w N).length) : (bbits w N)[i] = N.testBit (w - 1 - i) := by
  have e1 := bb_tb (n := w) (x := N) hi
  rw [List.getD_eq_getElem?_getD, List.getElem?_eq_getElem h, Option.getD_some] at e1
  exact e1
theorem bb_zip {g : Bool → Bool → Bool} {o : Nat → Nat → Nat} (ho : ∀ a b i, (o a b).testBit i = g (a.testBit i) (b.testBit i)) {x y : List Bool} {w : Nat} (hx : x.length = w) (hy : y.length = w) : List.zipWith g x y = bbits w (o (bnum x) (bnum y)) := by
  refine List.ext_getElem (by rw [bbits_len, List.length_zipWith, hx, hy, Nat.min_self]) (fun i h1 h2 => ?_)
  rw [List.length_zipWith] at h1
  have hi : i < w := by omega
  rw [bb_ge hi, ho, List.getElem_zipWith, bn_tb hx hi, bn_tb hy hi]
theorem bb_zip3 {g : Bool → Bool → Bool → Bool} {o : Nat → Nat → Nat → Nat} {w : Nat} (ho : ∀ a b c i, i < w → (o a b c).testBit i = g (a.testBit i) (b.testBit i) (c.testBit i)) {x y z : List Bool} (hx : x.length = w) (hy : y.length = w) (hz : z.length = w) : z3 g x y z = bbits w (o (bnum x) (bnum y) (bnum z)) := by
  unfold z3
  refine List.ext_getElem (by rw [bbits_len, List.length_zipWith, List.length_zip, hx, hy, hz, Nat.min_self, Nat.min_self]) (fun i h1 h2 => ?_)
  rw [List.length_zipWith, List.length_zip] at h1
  have hi : i < w := by omega
  rw [bb_ge hi, ho _ _ _ _ (by omega), List.getElem_zipWith, List.getElem_zip, bn_tb hx hi, bn_tb hy hi, bn_tb hz hi]
theorem dm_low {M X n k : Nat} (h : k < n) : (M * 2 ^ n + X) / 2 ^ k % 2 = X / 2 ^ k % 2 := by
  have e : (2 : Nat) ^ n = 2 ^ k * (2 * 2 ^ (n - k - 1)) := by
    rw [← Nat.pow_succ', ← Nat.pow_add]
    congr 1
    omega
  have e2 : M * 2 ^ n + X = X + 2 ^ k * (2 * (M * 2 ^ (n - k - 1))) := by
    rw [e, Nat.add_comm, Nat.mul_left_comm M, Nat.mul_left_comm M]
  rw [e2, Nat.add_mul_div_left _ _ (Nat.two_pow_pos k)]
  omega
theorem dm_top {b : Bool} {X n : Nat} (h : X < 2 ^ n) : (b.toNat * 2 ^ n + X) / 2 ^ n % 2 = b.toNat := by
  rw [Nat.add_comm, Nat.add_mul_div_right _ _ (Nat.two_pow_pos n), Nat.div_eq_of_lt h]
  cases b <;> rfl
theorem jPop_low {M X n : Nat} : ∀ k, k ≤ n → jPop (M * 2 ^ n + X) k = jPop X k
  | 0, _ => rfl
  | k + 1, h => by
    show jPop _ k + _ = jPop X k + _
    rw [jPop_low k (by omega), dm_low (by omega)]
theorem jLz_low {M X n : Nat} : ∀ k, k ≤ n → jLz (M * 2 ^ n + X) k = jLz X k
  | 0, _ => rfl
  | k + 1, h => by
    show (if _ then _ else 1 + jLz _ k) = if _ then _ else 1 + jLz X k
    rw [jLz_low k (by omega), dm_low (by omega)]
theorem bn_pop : ∀ x : List Bool, x.count true = jPop (bnum x) x.length
  | [] => rfl
  | b :: x => by
    rw [bnum_cons, List.length_cons]
    show _ = jPop _ x.length + _
    rw [jPop_low _ (Nat.le_refl _), dm_top (bnum_lt x), ← bn_pop x]
    cases b <;> simp
theorem bn_lz : ∀ x : List Bool, lzL x = jLz (bnum x) x.length
  | [] => rfl
  | b :: x => by
    rw [bnum_cons, List.length_cons]
    show _ = if _ then 0 else 1 + jLz _ x.length
    rw [jLz_low _ (Nat.le_refl _), dm_top (bnum_lt x), ← bn_lz x]
    cases b <;> simp [lzL]
