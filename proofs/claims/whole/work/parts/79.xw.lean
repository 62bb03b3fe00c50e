/-- byte k of a long -/
def xb (v : Int64) (k : Nat) : Nat := v.toBitVec.toNat / 2 ^ (8 * k) % 256
theorem xb_lt (v : Int64) (k : Nat) : xb v k < 256 := Nat.mod_lt _ (by decide)
theorem xb_log (v : Int64) {k : Nat} (hk : k < 8) : (v.toUInt64 >>> ((nI (8 * k)).toInt64.toUInt64 &&& Int64.toUInt64 63)).toInt64.toInt32 &&& nI 255 = nI (xb v k) := by
  obtain ⟨n, hn, rfl⟩ := wb_of v
  rw [wb_shr hn (by omega), lN_i, xa_and255]
  show nI (n / 2 ^ (8 * k) % 256) = nI ((lN n).toBitVec.toNat / 2 ^ (8 * k) % 256)
  rw [wb_tn hn]
theorem xb_ari (v : Int64) {k : Nat} (hk : k < 8) : (v >>> ((nI (8 * k)).toInt64 &&& 63) &&& 255).toInt32 = nI (xb v k) := by
  have h1 : (v >>> ((nI (8 * k)).toInt64 &&& 63) &&& 255) = (v.toUInt64 >>> ((nI (8 * k)).toInt64.toUInt64 &&& Int64.toUInt64 63)).toInt64 &&& 255 := by
    apply wb_inj
    apply BitVec.eq_of_getLsbD_eq
    intro i hi
    rw [wb_c (8 * k) (by omega), wb_cu (8 * k) (by omega)]
    simp only [Int64.toBitVec_and, BitVec.getLsbD_and]
    by_cases h8 : i < 8
    · congr 1
      have e1 : (v >>> lN (8 * k)).toBitVec = v.toBitVec.sshiftRight ((lN (8 * k)).toBitVec.smod 64).toNat := rfl
      have e2 : ((v.toUInt64 >>> UInt64.ofNat (8 * k)).toInt64).toBitVec = v.toBitVec >>> ((BitVec.ofNat 64 (8 * k)) % 64).toNat := rfl
      rw [e1, e2, wb_tb, wb_sm (8 * k) (by omega)]
      have e3 : (BitVec.ofNat 64 (8 * k)).toNat = 8 * k := by rw [BitVec.toNat_ofNat, Nat.mod_eq_of_lt (by omega)]
      have e4 : ((BitVec.ofNat 64 (8 * k)) % 64).toNat = 8 * k := by
        rw [BitVec.toNat_umod, e3]
        exact Nat.mod_eq_of_lt (by show 8 * k < 64; omega)
      rw [e3, e4, BitVec.getLsbD_sshiftRight, BitVec.getLsbD_ushiftRight]
      have h9 : 8 * k + i < 64 := by omega
      simp [h9, hi]
    · have e5 : (255 : Int64).toBitVec.getLsbD i = false := by
        show (BitVec.ofNat 64 255).getLsbD i = false
        rw [BitVec.getLsbD_ofNat]
        have : (255 : Nat).testBit i = false := Nat.testBit_lt_two_pow (Nat.lt_of_lt_of_le (by decide : 255 < 2 ^ 8) (Nat.pow_le_pow_right (by decide) (by omega)))
        simp [this]
      rw [e5]; simp
  rw [h1]
  obtain ⟨n, hn, rfl⟩ := wb_of v
  rw [wb_shr hn (by omega)]
  have h2 : (255 : Int64) = lN (2 ^ 8 - 1) := rfl
  rw [h2, wb_mask (Nat.lt_of_le_of_lt (Nat.div_le_self _ _) hn) (by decide), lN_i]
  show nI (n / 2 ^ (8 * k) % 2 ^ 8) = nI ((lN n).toBitVec.toNat / 2 ^ (8 * k) % 256)
  rw [wb_tn hn]
