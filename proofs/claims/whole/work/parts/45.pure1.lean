theorem pf_lI {a : Nat} (h : a < 2 ^ 63) : (lN a).toInt = (a : Int) := lg_ofNat_toInt h
theorem pf_shr {a d : Nat} {D : Int64} (hD : (D.toBitVec.smod 64).toNat = d) (h : a < 2 ^ 62) : lN a >>> D = lN (a / 2 ^ d) := by
  have hd : a / 2 ^ d ≤ a := Nat.div_le_self _ _
  apply Int64.toInt_inj.mp
  have e : (lN a >>> D).toInt = (lN a).toInt >>> d := by
    rw [← hD]
    exact BitVec.toInt_sshiftRight ..
  rw [e, Int.shiftRight_eq_div_pow, pf_lI (by omega), pf_lI (by omega)]
  rfl

theorem lN_inj {a b : Nat} (ha : a < 2 ^ 63) (hb : b < 2 ^ 63) (h : lN a = lN b) : a = b := (pk_lEQ ha hb).mp h
theorem nat_xor_all {k b : Nat} (hb : b < 2 ^ k) : b ^^^ (2 ^ k - 1) = 2 ^ k - 1 - b := by
  apply Nat.eq_of_testBit_eq
  intro i
  rw [Nat.testBit_xor, Nat.testBit_two_pow_sub_one, show 2 ^ k - 1 - b = 2 ^ k - (b + 1) by omega, Nat.testBit_two_pow_sub_succ hb]
  by_cases h : i < k
  · simp [h]
  · have h2 : b < 2 ^ i := Nat.lt_of_lt_of_le hb (Nat.pow_le_pow_right (by decide) (by omega))
    simp [h, Nat.testBit_lt_two_pow h2]
theorem xor_all {k b : Nat} (hk : k ≤ 62) (hb : b < 2 ^ k) : lN b ^^^ lN (2 ^ k - 1) = lN (2 ^ k - 1 - b) := by
  have h1 : 2 ^ k ≤ 2 ^ 62 := Nat.pow_le_pow_right (by decide) hk
  apply wb_inj
  rw [Int64.toBitVec_xor, wb_tb, wb_tb, wb_tb]
  apply BitVec.eq_of_toNat_eq
  rw [BitVec.toNat_xor, BitVec.toNat_ofNat, BitVec.toNat_ofNat, BitVec.toNat_ofNat, Nat.mod_eq_of_lt (by omega), Nat.mod_eq_of_lt (by omega), Nat.mod_eq_of_lt (by omega), nat_xor_all hb]
theorem sum_tail (a b m t : Int64) : F_X4_sum_22 a b m t = F_X9_sum_23 a b m t := by
  unfold F_X4_sum_22 F_X4_sum_40 F_X4_sum_41 F_X9_sum_23
  by_cases h1 : a = m <;> by_cases h2 : b = m <;> by_cases h3 : t = m <;> simp [h1, h2, h3]
theorem sum_eq {k : Nat} (hk : k ≤ 60) {a b : Int64} (ha : Nb (2 ^ k - 1) a) (hb : Nb (2 ^ k - 1) b) : F_X4_sum a b (lN (2 ^ k - 1)) = F_X9_sum a b (lN (2 ^ k - 1)) := by
  have h1 : 2 ^ k ≤ 2 ^ 60 := Nat.pow_le_pow_right (by decide) hk
  have h0 : 0 < 2 ^ k := Nat.two_pow_pos k
  obtain ⟨x, hx, rfl⟩ := ha
  obtain ⟨y, hy, rfl⟩ := hb
  unfold F_X4_sum F_X9_sum
  rw [lN_add]
  by_cases c : lN (x + y) ≤ lN (2 ^ k - 1)
  · rw [if_pos c, if_pos c, sum_tail]
  · rw [if_neg c, if_neg c, sum_tail]
    rw [pk_lLE (by omega) (by omega)] at c
    have e : lN (x + y) &&& lN (2 ^ k - 1) = lN ((x + y) % 2 ^ k) := wb_mask (by omega) (by omega)
    have e2 : (x + y) % 2 ^ k = x + y - 2 ^ k := by
      rw [Nat.mod_eq_sub_mod (by omega), Nat.mod_eq_of_lt (by omega)]
    rw [e, e2, lN_sub (by omega), lN_1, show x + y - 2 ^ k + 1 = x + y - (2 ^ k - 1) by omega]
theorem diff_eq {k : Nat} (hk : k ≤ 60) {a b : Int64} (ha : Nb (2 ^ k - 1) a) (hb : Nb (2 ^ k - 1) b) : F_X4_difference a b (lN (2 ^ k - 1)) = F_X9_less a b (lN (2 ^ k - 1)) := by
  have h0 : 0 < 2 ^ k := Nat.two_pow_pos k
  obtain ⟨y, hy, rfl⟩ := hb
  unfold F_X4_difference F_X9_less
  rw [xor_all (by omega) (by omega), lN_sub hy]
  exact sum_eq hk ha ⟨2 ^ k - 1 - y, by omega, rfl⟩
theorem ext_eq (a : Int64) : F_X4_extended a = F_X9_extended a := by
  unfold F_X4_extended F_X9_extended F_X4_isShortNegative
  by_cases c : a ≤ (131071 : Int64)
  · simp [c]
  · simp [c]
theorem or_low {a b k : Nat} (hb : b < 2 ^ k) (h : a * 2 ^ k + b < 2 ^ 64) : lN (a * 2 ^ k) ||| lN b = lN (a * 2 ^ k + b) := by
  have h1 : a * 2 ^ k < 2 ^ 64 := by omega
  rw [wb_or h1 (by omega)]
  congr 1
  rw [Nat.mul_comm, Nat.two_pow_add_eq_or_of_lt hb]
/-- one turn of the reference's turning round, as numbers -/
theorem turn_step {n : Nat} (hn : n < 2 ^ 60) : ((lN n <<< ((1 : Int32).toInt64 &&& 63)) &&& (1152921504606846975 : Int64)) ||| (lN n >>> ((59 : Int32).toInt64 &&& 63)) = lN (n % 2 ^ 59 * 2 ^ 1 + n / 2 ^ 59) := by
  have e1 : lN n <<< ((1 : Int32).toInt64 &&& 63) = lN (n * 2 ^ 1) := wb_shl n (k := 1) (by decide)
  have e2 : lN (n * 2 ^ 1) &&& (1152921504606846975 : Int64) = lN (n * 2 ^ 1 % 2 ^ 60) := wb_mask (k := 60) (by omega) (by decide)
  have e3 : lN n >>> ((59 : Int32).toInt64 &&& 63) = lN (n / 2 ^ 59) := pf_shr (d := 59) (by decide) (by omega)
  rw [e1, e2, e3, show n * 2 ^ 1 % 2 ^ 60 = n % 2 ^ 59 * 2 ^ 1 by omega]
  exact or_low (k := 1) (by omega) (by omega)
/-- v is n turned round left by t -/
def Rot (n t v : Nat) : Prop := ∃ q s : Nat, n = q * 2 ^ (60 - t) + s ∧ s < 2 ^ (60 - t) ∧ q < 2 ^ t ∧ v = s * 2 ^ t + q
theorem Rot.zero {n : Nat} (hn : n < 2 ^ 60) : Rot n 0 n := ⟨0, n, by omega, by simpa using hn, by decide, by omega⟩
theorem Rot.lt {n t v : Nat} (ht : t ≤ 60) (h : Rot n t v) : v < 2 ^ 60 := by
  obtain ⟨q, s, -, hs, hq, rfl⟩ := h
  have e : 2 ^ (60 - t) * 2 ^ t = 2 ^ 60 := by rw [← Nat.pow_add]; congr 1; omega
  have h1 : (s + 1) * 2 ^ t ≤ 2 ^ (60 - t) * 2 ^ t := Nat.mul_le_mul_right _ hs
  rw [Nat.add_mul] at h1
  omega
theorem Rot.step {n t v : Nat} (ht : t < 60) (h : Rot n t v) : Rot n (t + 1) (v % 2 ^ 59 * 2 ^ 1 + v / 2 ^ 59) := by
  obtain ⟨q, s, hn, hs, hq, rfl⟩ := h
  have e0 : 2 ^ (60 - t) = 2 * 2 ^ (59 - t) := by rw [show 60 - t = (59 - t) + 1 by omega, Nat.pow_succ]; omega
  have e1 : 2 ^ (59 - t) * 2 ^ t = 2 ^ 59 := by rw [← Nat.pow_add]; congr 1; omega
  have hp : 0 < 2 ^ (59 - t) := Nat.two_pow_pos _
  have et : 2 ^ (t + 1) = 2 * 2 ^ t := by rw [Nat.pow_succ]; omega
  rw [e0] at hs hn
  obtain ⟨b, s', hb, hs', rfl⟩ : ∃ b s', b < 2 ∧ s' < 2 ^ (59 - t) ∧ s = b * 2 ^ (59 - t) + s' := ⟨s / 2 ^ (59 - t), s % 2 ^ (59 - t), Nat.div_lt_of_lt_mul (by omega), Nat.mod_lt _ hp, by rw [Nat.mul_comm]; exact (Nat.div_add_mod _ _).symm⟩
  have hlow : s' * 2 ^ t + q < 2 ^ 59 := by
    have h1 : (s' + 1) * 2 ^ t ≤ 2 ^ (59 - t) * 2 ^ t := Nat.mul_le_mul_right _ hs'
    rw [Nat.add_mul] at h1
    omega
  have ev : (b * 2 ^ (59 - t) + s') * 2 ^ t + q = b * 2 ^ 59 + (s' * 2 ^ t + q) := by
    rw [Nat.add_mul, Nat.mul_assoc, e1]; omega
  refine ⟨2 * q + b, s', ?_, by rw [show 60 - (t + 1) = 59 - t by omega]; exact hs', by rw [et]; omega, ?_⟩
  · rw [show 60 - (t + 1) = 59 - t by omega, hn, Nat.add_mul]
    have : q * (2 * 2 ^ (59 - t)) = 2 * q * 2 ^ (59 - t) := by rw [Nat.mul_comm 2 (2 ^ (59 - t)), ← Nat.mul_assoc, Nat.mul_comm (q * 2 ^ (59 - t)) 2, Nat.mul_assoc]
    omega
  · rw [ev, show (b * 2 ^ 59 + (s' * 2 ^ t + q)) % 2 ^ 59 = s' * 2 ^ t + q by rw [Nat.mul_comm, Nat.mul_add_mod]; exact Nat.mod_eq_of_lt hlow, show (b * 2 ^ 59 + (s' * 2 ^ t + q)) / 2 ^ 59 = b by rw [Nat.mul_comm, Nat.mul_add_div (by decide), Nat.div_eq_of_lt hlow]; omega, et]
    have : s' * (2 * 2 ^ t) = 2 * (s' * 2 ^ t) := by rw [Nat.mul_left_comm]
    omega
theorem Rot.eq {n t v w : Nat} (h : Rot n t v) (h' : Rot n t w) : v = w := by
  obtain ⟨q, s, hn, hs, -, rfl⟩ := h
  obtain ⟨q', s', hn', hs', -, rfl⟩ := h'
  have hp : 0 < 2 ^ (60 - t) := Nat.two_pow_pos _
  have eq : q = n / 2 ^ (60 - t) := by rw [hn, Nat.mul_comm, Nat.mul_add_div hp, Nat.div_eq_of_lt hs]; omega
  have eq' : q' = n / 2 ^ (60 - t) := by rw [hn', Nat.mul_comm, Nat.mul_add_div hp, Nat.div_eq_of_lt hs']; omega
  have hqq : q = q' := eq.trans eq'.symm
  subst hqq
  have : s = s' := by omega
  rw [this]
theorem round_loop {n r : Nat} (hr : r < 60) {v2 : Int32} (hv : v2 - v2 / (60 : Int32) * (60 : Int32) = nI r) : ∀ (fuel t v : Nat), t ≤ r → r < t + fuel → Rot n t v → ∃ w, F_X9_round_5 fuel v2 (lN v) (nI t) = lN w ∧ Rot n r w := by
  intro fuel
  induction fuel with
  | zero => intro t v h1 h2; omega
  | succ f ih =>
    intro t v h1 h2 h
    have hlt := h.lt (by omega)
    rw [F_X9_round_5, hv]
    by_cases c : nI r ≤ nI t
    · rw [if_pos c]
      have : t = r := by
        have := (nI_leI (by omega) (by omega)).mp c
        omega
      subst this
      exact ⟨v, rfl, h⟩
    · rw [if_neg c, turn_step hlt, show nI t + (1 : Int32) = nI (t + 1) from nI_1 t]
      have c' : t < r := by
        rcases Nat.lt_or_ge t r with q | q
        · exact q
        · exact absurd (nI_le q (by omega)) c
      exact ih (t + 1) _ c' (by omega) (h.step (by omega))
theorem round_eq {n m : Nat} (hn : n < 2 ^ 60) (hm : m < 64) : F_X4_turnedRoundLeft (lN n) (nI m) = F_X9_round (lN n) (nI m) := by
  have hr : nI m - nI m / (60 : Int32) * (60 : Int32) = nI (m % 60) := pk_rem (a := m) (d := 60) (by omega) (by omega) (by omega)
  have hlt : m % 60 < 60 := Nat.mod_lt _ (by decide)
  obtain ⟨w, hw, hrot⟩ := round_loop (n := n) hlt hr 61 0 n (Nat.zero_le _) (by omega) (Rot.zero hn)
  unfold F_X9_round
  rw [show (0 : Int32) = nI 0 from rfl, hw]
  unfold F_X4_turnedRoundLeft
  rw [hr]
  generalize m % 60 = r at hlt hrot
  have e60 : (60 : Int32) - nI r = nI (60 - r) := pk_sub (a := 60) (by omega)
  have hp : 0 < 2 ^ (60 - r) := Nat.two_pow_pos _
  have epow : 2 ^ (60 - r) * 2 ^ r = 2 ^ 60 := by rw [← Nat.pow_add]; congr 1; omega
  have hq : n / 2 ^ (60 - r) < 2 ^ r := Nat.div_lt_of_lt_mul (by rw [epow]; exact hn)
  have hr60 : 2 ^ r < 2 ^ 60 := Nat.pow_lt_pow_right (by decide) hlt
  have hs : n % 2 ^ (60 - r) < 2 ^ (60 - r) := Nat.mod_lt _ hp
  rw [e60, wb_shl n (by omega), wb_shr (by omega) (by omega), wb_mod (n * 2 ^ r), wb_or (Nat.mod_lt _ (by decide)) (by omega)]
  have em : (n * 2 ^ r % 2 ^ 64 ||| n / 2 ^ (60 - r)) < 2 ^ 64 := Nat.or_lt_two_pow (Nat.mod_lt _ (by decide)) (by omega)
  have e := wb_mask (n := (n * 2 ^ r % 2 ^ 64 ||| n / 2 ^ (60 - r))) (k := 60) em (by decide)
  rw [show (1152921504606846975 : Int64) = lN (2 ^ 60 - 1) from rfl, e]
  congr 1
  rw [Nat.or_mod_two_pow, Nat.mod_mod_of_dvd _ (show 2 ^ 60 ∣ 2 ^ 64 from ⟨2 ^ 4, rfl⟩), Nat.mod_eq_of_lt (show n / 2 ^ (60 - r) < 2 ^ 60 by omega)]
  have e3 : n * 2 ^ r % 2 ^ 60 = 2 ^ r * (n % 2 ^ (60 - r)) := by
    rw [← epow, Nat.mul_comm n, Nat.mul_comm (2 ^ (60 - r)), Nat.mul_mod_mul_left]
  rw [e3, ← Nat.two_pow_add_eq_or_of_lt hq]
  refine Rot.eq (n := n) (t := r) ⟨n / 2 ^ (60 - r), n % 2 ^ (60 - r), ?_, hs, hq, ?_⟩ hrot
  · rw [Nat.mul_comm]; exact (Nat.div_add_mod _ _).symm
  · rw [Nat.mul_comm]
