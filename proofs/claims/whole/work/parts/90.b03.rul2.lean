/-! ===== shifts and sums of numbers; rows of bytes as lists ===== -/
theorem bt_nI (a : Nat) {i : Nat} (hi : i < 32) : bt (nI a) i = a.testBit i := by
  show (BitVec.ofNat 32 a).getLsbD i = _
  rw [BitVec.getLsbD_ofNat]
  simp [hi]
theorem nI_shl (x : Nat) {n : Nat} (hn : n < 32) : nI x <<< (nI n &&& 31) = nI (x * 2 ^ n) := by
  apply b_ext
  intro i hi
  rw [b_shl n hn _ hi, bt_nI _ hi, Nat.testBit_mul_two_pow, bt_nI _ (by omega)]
theorem nx_or (a b : Nat) : nI a ||| nI b = nI (a ||| b) := by
  apply b_ext
  intro i hi
  rw [b_or, bt_nI _ hi, bt_nI _ hi, bt_nI _ hi, Nat.testBit_or]
theorem nI_orp {x n b : Nat} (hb : b < 2 ^ n) : nI (x * 2 ^ n) ||| nI b = nI (x * 2 ^ n + b) := by
  rw [nx_or, Nat.mul_comm, Nat.two_pow_add_eq_or_of_lt hb]
theorem nI_sh1 {x b : Nat} (hb : b < 2) : nI x <<< (nI 1 &&& 31) ||| nI b = nI (2 * x + b) := by
  rw [nI_shl x (by decide), nI_orp (n := 1) (by omega)]
  congr 1
  omega
theorem nI_po {x b : Nat} (hx : x < 32) (hb : b < 2 ^ x) : nI 1 <<< (nI x &&& 31) ||| nI b = nI (2 ^ x + b) := by
  rw [nI_shl 1 hx, nI_orp hb, Nat.one_mul]
theorem nm_mod {p d : Nat} : p - p / d * d = p % d := by
  have := Nat.div_add_mod p d
  rw [Nat.mul_comm] at this
  omega
theorem nI_m1 {a : Nat} (h : 1 ≤ a) : nI a + -1 = nI (a - 1) := by
  obtain ⟨m, rfl⟩ : ∃ m, a = m + 1 := ⟨a - 1, by omega⟩
  rw [Nat.add_sub_cancel, ← nI_add m 1, Int32.add_assoc]
  show nI m + 0 = nI m
  exact Int32.add_zero _
/-- a row of the class holds these bytes -/
def rowIs (h : xm_H) (r b : Nat) (l : List Nat) : Prop := h.2.2 r 0 = .ref b ∧ h.2.2 r 1 = .int (nI l.length) ∧ l.length ≤ 8192 ∧ (∀ i, i < l.length → xa_by (h.1 b i) = l.getD i 0) ∧ ∀ i, i < l.length → fits .byte (.int (h.1 b i)) = true
theorem rowIs_at {h : xm_H} {r b : Nat} {l : List Nat} (hr : rowIs h r b l) (i : Nat) : rw_at (h.1 b) l.length i = l.getD i 0 := by
  unfold rw_at
  by_cases e : i < l.length
  · rw [if_pos e, hr.2.2.2.1 i e]
  · rw [if_neg e]
    simp [List.getD, List.getElem?_eq_none (Nat.le_of_not_lt e)]
theorem rowIs_bit {h : xm_H} {r b : Nat} {l : List Nat} (hr : rowIs h r b l) (p : Nat) : rw_bit (h.1 b) l.length p = by_bit l p := by
  unfold rw_bit by_bit
  rw [rowIs_at hr]
theorem rowIs_z {h : xm_H} {r b : Nat} {l : List Nat} (hr : rowIs h r b l) (p : Nat) : ∀ n, rw_z (h.1 b) l.length p n = bz (by_bit l) p n
  | 0 => rfl
  | n + 1 => by rw [rw_z, bz, rowIs_z hr p n, rowIs_bit hr]
theorem rowIs_lt {h : xm_H} {r b : Nat} {l : List Nat} (hr : rowIs h r b l) {i : Nat} (hi : i < l.length) : l.getD i 0 < 256 := by rw [← hr.2.2.2.1 i hi]; exact xa_by_lt _
theorem rowIs_fr {S : List Nat} {T : List (Nat × Nat)} {h h' : xm_H} {r b : Nat} {l : List Nat} (hr : rowIs h r b l) (hf : Fr S T h h') (hb : b ∉ S) (h0 : (r, 0) ∉ T) (h1 : (r, 1) ∉ T) : rowIs h' r b l := by
  obtain ⟨a1, a2, a3, a4, a5⟩ := hr
  refine ⟨by rw [hf.2.2 _ _ h0, a1], by rw [hf.2.2 _ _ h1, a2], a3, fun i hi => ?_, fun i hi => ?_⟩
  · rw [hf.1 _ hb]; exact a4 i hi
  · rw [hf.1 _ hb]; exact a5 i hi
/-- a row of the reference holds these bytes -/
def mrow (h : xm_H) (a : Nat) (l : List Nat) : Prop := (∀ i, i < l.length → h.1 a i = nI (l.getD i 0)) ∧ (∀ i, i < l.length → l.getD i 0 < 256) ∧ l.length ≤ 8192
/-- what may stay of a valuation when a row isn't changed -/
theorem sp_bitL {sc : xm_Sc} {d r b i : Nat} {l : List Nat} {h : xm_H} {post : xm_Po} (hr : (xe_sh (XE sc))[r]? = some (.inr (8, 4))) (hb : (xe_sh (XE sc))[b]? = some (.inl (.byte, 8192))) (hl : rowIs h r b l) (hi : i < 2147483648)
    (hp : post (some (.int (nI (by_bit l i)))) h) : xm_T (XE sc) (d + 2) 127 [.ref r, .int (nI i)] h post := by
  refine sp_bit hr hb hl.1 hl.2.1 hl.2.2.1 hi ?_
  rw [rowIs_bit hl]
  exact hp
theorem sp_atL {sc : xm_Sc} {d r b i : Nat} {l : List Nat} {h : xm_H} {post : xm_Po} (hr : (xe_sh (XE sc))[r]? = some (.inr (8, 4))) (hb : (xe_sh (XE sc))[b]? = some (.inl (.byte, 8192))) (hl : rowIs h r b l) (hi : i < 2147483648)
    (hp : post (some (.int (nI (l.getD i 0)))) h) : xm_T (XE sc) (d + 1) 126 [.ref r, .int (nI i)] h post := by
  refine sp_at hr hb hl.1 hl.2.1 hl.2.2.1 hi ?_
  rw [rowIs_at hl]
  exact hp
