theorem xa_tb {a j : Nat} (hj : j < 32) : bt (nI a) j = a.testBit j := by
  show (BitVec.ofNat 32 a).getLsbD j = _
  rw [BitVec.getLsbD_ofNat]
  simp [hj]
theorem xa_shr {a k : Nat} (ha : a < 2147483648) (hk : k < 32) : nI a >>> (nI k &&& 31) = nI (a / 2 ^ k) := by
  apply b_ext
  intro i hi
  rw [b_sshr k hk _ hi, xa_tb hi, Nat.testBit_div_two_pow]
  have hf : ∀ j, 31 ≤ j → a.testBit j = false := fun j hj => Nat.testBit_lt_two_pow (Nat.lt_of_lt_of_le ha (show 2147483648 ≤ 2 ^ j from Nat.le_trans (by decide : 2147483648 ≤ 2 ^ 31) (Nat.pow_le_pow_right (by decide) hj)))
  split
  · rename_i h
    rw [xa_tb h, Nat.add_comm]
  · rename_i h
    rw [xa_tb (by decide), hf 31 (Nat.le_refl _), hf _ (by omega)]
theorem xa_and7 (a : Nat) : nI a &&& nI 7 = nI (a % 8) := by rw [nx_and, show (7 : Nat) = 2 ^ 3 - 1 from rfl, Nat.and_two_pow_sub_one_eq_mod]
theorem xa_and1 (a : Nat) : nI a &&& nI 1 = nI (a % 2) := by rw [nx_and, show (1 : Nat) = 2 ^ 1 - 1 from rfl, Nat.and_two_pow_sub_one_eq_mod]
theorem xa_and255 (a : Nat) : nI a &&& nI 255 = nI (a % 256) := by rw [nx_and, show (255 : Nat) = 2 ^ 8 - 1 from rfl, Nat.and_two_pow_sub_one_eq_mod]
theorem xa_sub {a b : Nat} (h : b ≤ a) : nI a - nI b = nI (a - b) := by
  obtain ⟨c, rfl⟩ := Nat.exists_eq_add_of_le h
  rw [← nI_add, Nat.add_sub_cancel_left]
  apply Int32.toBitVec_inj.mp
  rw [Int32.toBitVec_sub, Int32.toBitVec_add, BitVec.add_comm, BitVec.add_sub_cancel]
theorem xa_mul (a b : Nat) : nI a * nI b = nI (a * b) := (Int32.ofNat_mul a b).symm
/-- the byte of a byte -/
def xa_by (x : Int32) : Nat := x.toBitVec.toNat % 256
theorem xa_by_lt (x : Int32) : xa_by x < 256 := Nat.mod_lt _ (by decide)
theorem xa_by_and (x : Int32) : x &&& nI 255 = nI (xa_by x) := by
  obtain ⟨n, hn, rfl⟩ := wb_of32 x
  rw [xa_and255]
  congr 1
  show n % 256 = (BitVec.ofNat 32 n).toNat % 256
  rw [BitVec.toNat_ofNat, Nat.mod_mod_of_dvd _ (by decide)]
/-- what a byte row keeps of a number -/
theorem xa_by_put (a : Nat) : xa_by (vp_nar .byte (nI a).toInt8.toInt32) = a % 256 := by
  have h1 : vp_nar .byte (nI a).toInt8.toInt32 = (nI a).toInt8.toInt32 := by rw [vp_nar_byte]; simp
  rw [h1]
  have h2 := bp_b (nI a)
  have h3 := xa_by_and ((nI a).toInt8.toInt32)
  have h4 : (nI a).toInt8.toInt32 &&& nI 255 = nI (a % 256) := by
    show (nI a).toInt8.toInt32 &&& 255 = _
    rw [h2]; exact xa_and255 a
  rw [h4] at h3
  exact ((nI_eq (Nat.lt_trans (Nat.mod_lt _ (by decide)) (by decide)) (Nat.lt_trans (xa_by_lt _) (by decide))).mp h3).symm
theorem xa_by_fit (a : Int32) : fits .byte (.int (vp_nar .byte a.toInt8.toInt32)) = true := by
  have h1 : vp_nar .byte a.toInt8.toInt32 = a.toInt8.toInt32 := by rw [vp_nar_byte]; simp
  rw [h1]
  have h2 : ∀ z : Int8, fits .byte (.int z.toInt32) = true := by
    intro z
    have hlo := Int8.le_toInt z
    have hhi := Int8.toInt_lt z
    simp only [fits, Bool.and_eq_true, decide_eq_true_eq, Int32.le_iff_toInt_le, Int8.toInt_toInt32]
    have e1 : (-128 : Int32).toInt = -128 := by decide
    have e2 : (127 : Int32).toInt = 127 := by decide
    rw [e1, e2]
    omega
  exact h2 _
