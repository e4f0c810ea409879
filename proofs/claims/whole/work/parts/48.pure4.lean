theorem not_mask {y : Nat} (hy : y < 2 ^ 60) : (lN y ^^^ (-1 : Int64)) &&& (1152921504606846975 : Int64) = lN (2 ^ 60 - 1 - y) := by
  have e : lN y ^^^ (-1 : Int64) = lN (2 ^ 64 - 1 - y) := by
    apply wb_inj
    rw [Int64.toBitVec_xor, wb_tb, wb_tb, show (-1 : Int64).toBitVec = BitVec.ofNat 64 (2 ^ 64 - 1) from by decide]
    apply BitVec.eq_of_toNat_eq
    rw [BitVec.toNat_xor, BitVec.toNat_ofNat, BitVec.toNat_ofNat, BitVec.toNat_ofNat, Nat.mod_eq_of_lt (show y < 2 ^ 64 by omega), Nat.mod_eq_of_lt (show 2 ^ 64 - 1 < 2 ^ 64 by omega), Nat.mod_eq_of_lt (show 2 ^ 64 - 1 - y < 2 ^ 64 by omega), nat_xor_all (k := 64) (by omega)]
  rw [e]
  have h := wb_mask (n := 2 ^ 64 - 1 - y) (k := 60) (by omega) (by decide)
  rw [show (1152921504606846975 : Int64) = lN (2 ^ 60 - 1) from rfl, h]
  congr 1
  omega
