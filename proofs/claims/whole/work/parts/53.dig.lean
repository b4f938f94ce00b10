/-! ===== figures of a code ===== -/
theorem sh3 : ∀ t, t < 6 → (3 * nI t &&& 31) = nI (3 * t) := by decide +kernel
theorem shr_nI (c : Nat) (hc : c < 2 ^ 18) (s : Nat) (hs : s < 32) : nI c >>> nI s = nI (c / 2 ^ s) := by
  apply Int32.toBitVec_inj.mp
  apply BitVec.eq_of_toNat_eq
  rw [Int32.toBitVec_shiftRight]
  have e1 : (nI c).toBitVec.msb = false := by
    rw [BitVec.msb_eq_decide]
    have : (nI c).toBitVec.toNat = c := by show (BitVec.ofNat 32 c).toNat = c; rw [BitVec.toNat_ofNat]; omega
    rw [this]; simp; omega
  have e2 : (nI c).toBitVec.toNat = c := by show (BitVec.ofNat 32 c).toNat = c; rw [BitVec.toNat_ofNat]; omega
  have e3 : ((nI s).toBitVec.smod 32).toNat = s := by
    have key : ∀ s, s < 32 → ((nI s).toBitVec.smod 32).toNat = s := by decide +kernel
    exact key s hs
  rw [BitVec.sshiftRight', e3, BitVec.sshiftRight_eq_of_msb_false e1, BitVec.toNat_ushiftRight, e2, Nat.shiftRight_eq_div_pow]
  have h5 : c / 2 ^ s ≤ c := Nat.div_le_self _ _
  show _ = (BitVec.ofNat 32 (c / 2 ^ s)).toNat
  rw [BitVec.toNat_ofNat, Nat.mod_eq_of_lt (Nat.lt_of_le_of_lt h5 (by omega))]
theorem and7 (c : Nat) (hc : c < 2 ^ 18) : nI c &&& 7 = nI (c % 8) := by
  apply Int32.toBitVec_inj.mp
  apply BitVec.eq_of_toNat_eq
  have e2 : (nI c).toBitVec.toNat = c := by show (BitVec.ofNat 32 c).toNat = c; rw [BitVec.toNat_ofNat]; omega
  rw [Int32.toBitVec_and, BitVec.toNat_and, e2, show (7 : Int32).toBitVec.toNat = 2 ^ 3 - 1 by decide, Nat.and_two_pow_sub_one_eq_mod]
  show _ = (BitVec.ofNat 32 (c % 8)).toNat
  rw [BitVec.toNat_ofNat]; omega
theorem dig_nI {c t : Nat} (hc : c < 2 ^ 18) (ht : t < 6) : (nI c >>> (3 * nI t &&& 31)) &&& 7 = nI (c / 8 ^ t % 8) := by
  have h5 : c / 2 ^ (3 * t) ≤ c := Nat.div_le_self _ _
  rw [sh3 t ht, shr_nI c hc _ (by omega), and7 _ (Nat.lt_of_le_of_lt h5 hc), Nat.pow_mul]

