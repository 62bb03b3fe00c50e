/-! ===== Long.bitCount ===== -/
def bcP1 (m x : Nat) : Nat := x - (x / 2 &&& m)
def bcP2 (m x : Nat) : Nat := (x &&& m) + (x / 4 &&& m)
def bcP3 (m x : Nat) : Nat := (x + x / 16) &&& m
theorem and_sp {q b m k : Nat} (hb : b < 256) (hk : k < 256) : (256 * q + b) &&& (256 * m + k) = 256 * (q &&& m) + (b &&& k) := by
  apply Nat.eq_of_testBit_eq
  intro i
  have hbk : b &&& k < 2 ^ 8 := Nat.and_lt_two_pow _ hk
  have e1 := Nat.testBit_two_pow_mul_add q (show b < 2 ^ 8 from hb) i
  have e2 := Nat.testBit_two_pow_mul_add m (show k < 2 ^ 8 from hk) i
  have e3 := Nat.testBit_two_pow_mul_add (q &&& m) hbk i
  simp only [show (2 : Nat) ^ 8 = 256 from rfl] at e1 e2 e3
  rw [Nat.testBit_and, e1, e2, e3]
  by_cases h : i < 8 <;> simp [h, Nat.testBit_and]
theorem bc_1 : ∀ e, e < 2 → ∀ b, b < 256 → (128 * e + b / 2) &&& 85 = b / 2 &&& 85 := by decide +kernel
theorem bc_2 : ∀ e, e < 4 → ∀ b, b < 256 → (64 * e + b / 4) &&& 51 = b / 4 &&& 51 := by decide +kernel
theorem bc_3 : ∀ e, e ≤ 4 → ∀ b, b < 256 → b ≤ 68 → (b + (16 * e + b / 16)) &&& 15 = (b + b / 16) &&& 15 := by decide +kernel
theorem bcP1_s {q b m : Nat} (hb : b < 256) : bcP1 (256 * m + 85) (256 * q + b) = 256 * bcP1 m q + bcP1 85 b := by
  unfold bcP1
  have e : (256 * q + b) / 2 = 256 * (q / 2) + (128 * (q % 2) + b / 2) := by omega
  rw [e, and_sp (by omega) (by decide), bc_1 _ (by omega) b hb]
  have h1 : q / 2 &&& m ≤ q / 2 := Nat.and_le_left
  have h2 : b / 2 &&& 85 ≤ b / 2 := Nat.and_le_left
  omega
theorem bcP2_s {q b m : Nat} (hb : b < 256) : bcP2 (256 * m + 51) (256 * q + b) = 256 * bcP2 m q + bcP2 51 b := by
  unfold bcP2
  have e : (256 * q + b) / 4 = 256 * (q / 4) + (64 * (q % 4) + b / 4) := by omega
  rw [e, and_sp hb (by decide), and_sp (by omega) (by decide), bc_2 _ (by omega) b hb]
  omega
theorem bcP3_s {q b m : Nat} (hb : b ≤ 68) (hq : q % 16 ≤ 4) : bcP3 (256 * m + 15) (256 * q + b) = 256 * bcP3 m q + bcP3 15 b := by
  unfold bcP3
  have e : 256 * q + b + (256 * q + b) / 16 = 256 * (q + q / 16) + (b + (16 * (q % 16) + b / 16)) := by omega
  rw [e, and_sp (by omega) (by decide), bc_3 _ hq b (by omega) hb]
/-- rows of bytes as a number -/
def bcV : List Nat → Nat
  | [] => 0
  | b :: l => 256 * bcV l + b
def bcM (k : Nat) : Nat → Nat
  | 0 => 0
  | n + 1 => 256 * bcM k n + k
theorem bcL_1 : ∀ (l : List Nat), (∀ b ∈ l, b < 256) → bcP1 (bcM 85 l.length) (bcV l) = bcV (l.map (bcP1 85))
  | [], _ => rfl
  | b :: l, h => by
    show bcP1 (256 * bcM 85 l.length + 85) (256 * bcV l + b) = 256 * bcV (l.map (bcP1 85)) + bcP1 85 b
    rw [bcP1_s (h b (by simp)), bcL_1 l (fun x hx => h x (by simp [hx]))]
theorem bcL_2 : ∀ (l : List Nat), (∀ b ∈ l, b < 256) → bcP2 (bcM 51 l.length) (bcV l) = bcV (l.map (bcP2 51))
  | [], _ => rfl
  | b :: l, h => by
    show bcP2 (256 * bcM 51 l.length + 51) (256 * bcV l + b) = 256 * bcV (l.map (bcP2 51)) + bcP2 51 b
    rw [bcP2_s (h b (by simp)), bcL_2 l (fun x hx => h x (by simp [hx]))]
theorem bcV_16 : ∀ (l : List Nat), (∀ b ∈ l, b ≤ 68 ∧ b % 16 ≤ 4) → bcV l % 16 ≤ 4
  | [], _ => by decide
  | b :: l, h => by
    have := (h b (by simp)).2
    show (256 * bcV l + b) % 16 ≤ 4
    omega
theorem bcL_3 : ∀ (l : List Nat), (∀ b ∈ l, b ≤ 68 ∧ b % 16 ≤ 4) → bcP3 (bcM 15 l.length) (bcV l) = bcV (l.map (bcP3 15))
  | [], _ => rfl
  | b :: l, h => by
    show bcP3 (256 * bcM 15 l.length + 15) (256 * bcV l + b) = 256 * bcV (l.map (bcP3 15)) + bcP3 15 b
    rw [bcP3_s (h b (by simp)).1 (bcV_16 l (fun x hx => h x (by simp [hx]))), bcL_3 l (fun x hx => h x (by simp [hx]))]
theorem bc_b1 : ∀ b, b < 256 → bcP1 85 b < 256 := by decide +kernel
theorem bc_b2 : ∀ b, b < 256 → bcP2 51 (bcP1 85 b) ≤ 68 ∧ bcP2 51 (bcP1 85 b) % 16 ≤ 4 := by decide +kernel
theorem bc_b3 : ∀ b, b < 256 → bcP3 15 (bcP2 51 (bcP1 85 b)) = jPop b 8 := by decide +kernel
theorem jPop_le (x : Nat) : ∀ n, jPop x n ≤ n
  | 0 => Nat.le_refl _
  | n + 1 => by have := jPop_le x n; show jPop x n + x / 2 ^ n % 2 ≤ n + 1; omega
theorem jPop_s {q b : Nat} (hb : b < 256) : ∀ n, jPop (256 * q + b) (8 + n) = jPop b 8 + jPop q n
  | 0 => by
    simp only [jPop, Nat.add_zero, Nat.reduceAdd, Nat.reducePow]
    omega
  | n + 1 => by
    show jPop (256 * q + b) (8 + n) + (256 * q + b) / 2 ^ (8 + n) % 2 = jPop b 8 + (jPop q n + q / 2 ^ n % 2)
    have e : (256 * q + b) / 2 ^ (8 + n) = q / 2 ^ n := by
      rw [Nat.pow_add, ← Nat.div_div_eq_div_mul]
      congr 1
      simp only [Nat.reducePow]; omega
    rw [jPop_s hb n, e]; omega
theorem jPop_8 {b0 b1 b2 b3 b4 b5 b6 b7 : Nat} (h0 : b0 < 256) (h1 : b1 < 256) (h2 : b2 < 256) (h3 : b3 < 256) (h4 : b4 < 256) (h5 : b5 < 256) (h6 : b6 < 256) (h7 : b7 < 256) :
    jPop (bcV [b0, b1, b2, b3, b4, b5, b6, b7]) 64 = jPop b0 8 + (jPop b1 8 + (jPop b2 8 + (jPop b3 8 + (jPop b4 8 + (jPop b5 8 + (jPop b6 8 + (jPop b7 8 + 0))))))) := by
  show jPop (256 * bcV [b1, b2, b3, b4, b5, b6, b7] + b0) (8 + 56) = _
  rw [jPop_s h0]
  show _ + jPop (256 * bcV [b2, b3, b4, b5, b6, b7] + b1) (8 + 48) = _
  rw [jPop_s h1]
  show _ + (_ + jPop (256 * bcV [b3, b4, b5, b6, b7] + b2) (8 + 40)) = _
  rw [jPop_s h2]
  show _ + (_ + (_ + jPop (256 * bcV [b4, b5, b6, b7] + b3) (8 + 32))) = _
  rw [jPop_s h3]
  show _ + (_ + (_ + (_ + jPop (256 * bcV [b5, b6, b7] + b4) (8 + 24)))) = _
  rw [jPop_s h4]
  show _ + (_ + (_ + (_ + (_ + jPop (256 * bcV [b6, b7] + b5) (8 + 16))))) = _
  rw [jPop_s h5]
  show _ + (_ + (_ + (_ + (_ + (_ + jPop (256 * bcV [b7] + b6) (8 + 8)))))) = _
  rw [jPop_s h6]
  show _ + (_ + (_ + (_ + (_ + (_ + (_ + jPop (256 * bcV [] + b7) (8 + 0))))))) = _
  rw [jPop_s h7]
  rfl
def bcS (y : Nat) : Nat := (y + y / 256 + (y + y / 256) / 65536 + (y + y / 256 + (y + y / 256) / 65536) / 4294967296) % 128
theorem bcA {x y : Nat} {l m k : List Nat} (h : bcV l + bcV m = bcV k) : bcV (x :: l) + bcV (y :: m) = bcV ((x + y) :: k) := by
  show 256 * bcV l + x + (256 * bcV m + y) = 256 * bcV k + (x + y)
  omega
theorem bcA0 (l : List Nat) : bcV l + bcV [] = bcV l := Nat.add_zero _
theorem bcD {x : Nat} {l : List Nat} (h : x < 256) : bcV (x :: l) / 256 = bcV l := by
  show (256 * bcV l + x) / 256 = bcV l
  omega
theorem bcD2 {x y : Nat} {l : List Nat} (h : x < 256) (h2 : y < 256) : bcV (x :: y :: l) / 65536 = bcV l := by
  rw [show (65536 : Nat) = 256 * 256 from rfl, ← Nat.div_div_eq_div_mul, bcD h, bcD h2]
theorem bcD4 {x y z v : Nat} {l : List Nat} (h : x < 256) (h2 : y < 256) (h3 : z < 256) (h4 : v < 256) : bcV (x :: y :: z :: v :: l) / 4294967296 = bcV l := by
  rw [show (4294967296 : Nat) = 65536 * 65536 from rfl, ← Nat.div_div_eq_div_mul, bcD2 h h2, bcD2 h3 h4]
theorem bcL {x : Nat} {l : List Nat} (h : x < 128) : bcV (x :: l) % 128 = x := by
  show (256 * bcV l + x) % 128 = x
  omega
theorem bc_fin {p0 p1 p2 p3 p4 p5 p6 p7 : Nat} (h0 : p0 ≤ 8) (h1 : p1 ≤ 8) (h2 : p2 ≤ 8) (h3 : p3 ≤ 8) (h4 : p4 ≤ 8) (h5 : p5 ≤ 8) (h6 : p6 ≤ 8) (h7 : p7 ≤ 8) :
    bcS (bcV [p0, p1, p2, p3, p4, p5, p6, p7]) = p0 + (p1 + (p2 + (p3 + (p4 + (p5 + (p6 + (p7 + 0))))))) := by
  unfold bcS
  rw [bcD (show p0 < 256 by omega), bcA (bcA (bcA (bcA (bcA (bcA (bcA (bcA0 [p7]))))))), bcD2 (by omega) (by omega), bcA (bcA (bcA (bcA (bcA (bcA (bcA0 _)))))), bcD4 (by omega) (by omega) (by omega) (by omega), bcA (bcA (bcA (bcA (bcA0 _)))), bcL (by omega)]
  omega
/-- the sum of eight bytes -/
theorem bc_sum {x : Nat} (hx : x < 2 ^ 64) : ∃ y, bcP3 (bcM 15 8) (bcP2 (bcM 51 8) (bcP1 (bcM 85 8) x)) = y ∧ y < 2 ^ 60 ∧ bcS y = jPop x 64 := by
  have hxv : x = bcV [x % 256, x / 256 % 256, x / 65536 % 256, x / 16777216 % 256, x / 4294967296 % 256, x / 1099511627776 % 256, x / 281474976710656 % 256, x / 72057594037927936 % 256] := by
    simp only [bcV, Nat.reducePow] at *; omega
  have b0 : x % 256 < 256 := Nat.mod_lt _ (by decide)
  have b1 : x / 256 % 256 < 256 := Nat.mod_lt _ (by decide)
  have b2 : x / 65536 % 256 < 256 := Nat.mod_lt _ (by decide)
  have b3 : x / 16777216 % 256 < 256 := Nat.mod_lt _ (by decide)
  have b4 : x / 4294967296 % 256 < 256 := Nat.mod_lt _ (by decide)
  have b5 : x / 1099511627776 % 256 < 256 := Nat.mod_lt _ (by decide)
  have b6 : x / 281474976710656 % 256 < 256 := Nat.mod_lt _ (by decide)
  have b7 : x / 72057594037927936 % 256 < 256 := Nat.mod_lt _ (by decide)
  generalize x % 256 = c0 at *
  generalize x / 256 % 256 = c1 at *
  generalize x / 65536 % 256 = c2 at *
  generalize x / 16777216 % 256 = c3 at *
  generalize x / 4294967296 % 256 = c4 at *
  generalize x / 1099511627776 % 256 = c5 at *
  generalize x / 281474976710656 % 256 = c6 at *
  generalize x / 72057594037927936 % 256 = c7 at *
  have hall : ∀ b ∈ [c0, c1, c2, c3, c4, c5, c6, c7], b < 256 := by
    intro b hb
    simp only [List.mem_cons, List.not_mem_nil, or_false] at hb
    rcases hb with rfl | rfl | rfl | rfl | rfl | rfl | rfl | rfl <;> assumption
  have e1 := bcL_1 [c0, c1, c2, c3, c4, c5, c6, c7] hall
  have e2 := bcL_2 ([c0, c1, c2, c3, c4, c5, c6, c7].map (bcP1 85)) (fun b hb => by
    obtain ⟨t, ht, rfl⟩ := List.mem_map.mp hb
    exact bc_b1 t (hall t ht))
  have e3 := bcL_3 (([c0, c1, c2, c3, c4, c5, c6, c7].map (bcP1 85)).map (bcP2 51)) (fun b hb => by
    obtain ⟨t, ht, rfl⟩ := List.mem_map.mp hb
    obtain ⟨t', ht', rfl⟩ := List.mem_map.mp ht
    exact bc_b2 t' (hall t' ht'))
  simp only [List.length_map, List.length_cons, List.length_nil, Nat.reduceAdd] at e1 e2 e3
  rw [← hxv] at e1
  rw [e1, e2, e3]
  simp only [List.map_cons, List.map_nil, bc_b3 _ b0, bc_b3 _ b1, bc_b3 _ b2, bc_b3 _ b3, bc_b3 _ b4, bc_b3 _ b5, bc_b3 _ b6, bc_b3 _ b7]
  refine ⟨_, rfl, ?_, ?_⟩
  · have := jPop_le c0 8; have := jPop_le c1 8; have := jPop_le c2 8; have := jPop_le c3 8
    have := jPop_le c4 8; have := jPop_le c5 8; have := jPop_le c6 8; have := jPop_le c7 8
    simp only [bcV, Nat.reducePow]; omega
  · rw [hxv, jPop_8 b0 b1 b2 b3 b4 b5 b6 b7]
    have := jPop_le c0 8; have := jPop_le c1 8; have := jPop_le c2 8; have := jPop_le c3 8
    have := jPop_le c4 8; have := jPop_le c5 8; have := jPop_le c6 8; have := jPop_le c7 8
    exact bc_fin (jPop_le _ _) (jPop_le _ _) (jPop_le _ _) (jPop_le _ _) (jPop_le _ _) (jPop_le _ _) (jPop_le _ _) (jPop_le _ _)
