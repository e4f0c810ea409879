theorem not_mask {y : Nat} (hy : y < 2 ^ 60) : (lN y ^^^ (-1 : Int64)) &&& (1152921504606846975 : Int64) = lN (2 ^ 60 - 1 - y) := by
  have e : lN y ^^^ (-1 : Int64) = lN (2 ^ 64 - 1 - y) := by
    apply wb_inj
    rw [Int64.toBitVec_xor, wb_tb, wb_tb, show (-1 : Int64).toBitVec = BitVec.ofNat 64 (2 ^ 64 - 1) from by decide]
    apply BitVec.eq_of_toNat_eq
    rw [BitVec.toNat_xor, BitVec.toNat_ofNat, BitVec.toNat_ofNat, BitVec.toNat_ofNat, Nat.mod_eq_of_lt (show y < 2 ^ 64 by omega), Nat.mod_eq_of_lt (show 2 ^ 64 - 1 < 2 ^ 64 by omega), Nat.mod_eq_of_lt (show 2 ^ 64 - 1 - y < 2 ^ 64 by omega), nat_xor_all (k := 64) (by omega)]
  rw [e]
  have h := wb_mask (n := 2 ^ 64 - 1 - y) (k := 60) (by omega) (by decide)
  rw [show (1152921504606846975 : Int64) = lN (2 ^ 60 - 1) from rfl, h]
  congr 1
  omega
theorem plain_eq {y : Nat} (hy : y ≤ O18) : F_X4_plain (lN y) = F_X9_signed (lN y) (262143 : Int64) := by
  unfold F_X4_plain F_X9_signed F_X4_isShortNegative
  rw [show (262143 : Int64) / (2 : Int64) = (131071 : Int64) from by decide]
  by_cases c : lN y ≤ (131071 : Int64)
  · simp [c]
  · rw [if_neg c, if_neg c, if_neg (by decide), show (262143 : Int64) = lN (2 ^ 18 - 1) from rfl, xor_all (by omega) (by unfold O18 at hy; omega), ← lN_sub (by unfold O18 at hy; omega), Int64.neg_sub]
