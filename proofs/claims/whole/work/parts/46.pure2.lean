theorem lN_ti' {m : Nat} (h : m < 2 ^ 64) : (lN m).toInt = if m < 2 ^ 63 then (m : Int) else (m : Int) - 2 ^ 64 := by
  show (BitVec.ofNat 64 m).toInt = _
  rw [BitVec.toInt_eq_toNat_cond, BitVec.toNat_ofNat, Nat.mod_eq_of_lt h]
  by_cases c : m < 2 ^ 63
  · rw [if_pos (by omega), if_pos c]
  · rw [if_neg (by omega), if_neg c]; rfl
theorem sh_D {t : Nat} (ht : t < 64) : ((((nI t).toInt64 &&& 63) : Int64).toBitVec.smod 64).toNat = t := by
  rw [wb_c t ht, wb_tb]
  rw [show (64 : BitVec 64) = (64 : BitVec 64) from rfl, wb_sm t ht, BitVec.toNat_ofNat, Nat.mod_eq_of_lt (by omega)]
theorem and59 {n : Nat} (hn : n < 2 ^ 60) : n &&& 2 ^ 59 = n / 2 ^ 59 * 2 ^ 59 := by
  apply Nat.eq_of_testBit_eq
  intro i
  rw [Nat.testBit_and, Nat.testBit_two_pow]
  rcases Nat.lt_or_ge n (2 ^ 59) with c | c
  · rw [Nat.div_eq_of_lt c]
    by_cases e : 59 = i
    · subst e
      rw [Nat.testBit_lt_two_pow c]; simp
    · simp [e]
  · have e1 : n / 2 ^ 59 = 1 := by omega
    obtain ⟨r, rfl⟩ : ∃ r, n = 2 ^ 59 + r := ⟨n - 2 ^ 59, by omega⟩
    have hr : r < 2 ^ 59 := by omega
    rw [e1, Nat.one_mul, Nat.testBit_two_pow]
    by_cases e : 59 = i
    · subst e
      rw [Nat.testBit_two_pow_add_eq, Nat.testBit_lt_two_pow hr]; simp
    · simp [e]
theorem right_step {n : Nat} (hn : n < 2 ^ 60) : (lN n >>> ((1 : Int32).toInt64 &&& 63)) ||| (lN n &&& (576460752303423488 : Int64)) = lN (n / 2 ^ 59 * 2 ^ 59 + n / 2) := by
  have e1 : lN n >>> ((1 : Int32).toInt64 &&& 63) = lN (n / 2 ^ 1) := pf_shr (d := 1) (by decide) (by omega)
  have e2 : lN n &&& (576460752303423488 : Int64) = lN (n / 2 ^ 59 * 2 ^ 59) := by
    rw [show (576460752303423488 : Int64) = lN (2 ^ 59) from rfl, wb_and (by omega) (by decide), and59 hn]
  rw [e1, e2, Int64.or_comm]
  exact or_low (k := 59) (by omega) (by omega)
/-- v is n shifted right by t, its sign coming in -/
def Sar (n t v : Nat) : Prop := v = n / 2 ^ t + n / 2 ^ 59 * (2 ^ 60 - 2 ^ (60 - t))
theorem Sar.zero {n : Nat} : Sar n 0 n := by unfold Sar; simp
theorem Sar.lt {n t v : Nat} (hn : n < 2 ^ 60) (ht : t ≤ 60) (h : Sar n t v) : v < 2 ^ 60 := by
  unfold Sar at h
  have ep : 2 ^ (60 - t) * 2 ^ t = 2 ^ 60 := by rw [← Nat.pow_add]; congr 1; omega
  have h1 : n / 2 ^ t < 2 ^ (60 - t) := Nat.div_lt_of_lt_mul (by rw [Nat.mul_comm, ep]; exact hn)
  have h2 : 2 ^ (60 - t) ≤ 2 ^ 60 := Nat.pow_le_pow_right (by decide) (by omega)
  have hb : n / 2 ^ 59 < 2 := by omega
  rcases (show n / 2 ^ 59 = 0 ∨ n / 2 ^ 59 = 1 by omega) with e | e
  · rw [e] at h; omega
  · rw [e] at h; omega
theorem Sar.step {n t v : Nat} (hn : n < 2 ^ 60) (ht : t < 60) (h : Sar n t v) : Sar n (t + 1) (v / 2 ^ 59 * 2 ^ 59 + v / 2) := by
  have e0 : 2 ^ (60 - t) = 2 * 2 ^ (59 - t) := by rw [show 60 - t = (59 - t) + 1 by omega, Nat.pow_succ]; omega
  have e1 : 2 ^ (59 - t) * 2 ^ t = 2 ^ 59 := by rw [← Nat.pow_add]; congr 1; omega
  have hp : 0 < 2 ^ (59 - t) := Nat.two_pow_pos _
  have hP : 2 ^ (59 - t) ≤ 2 ^ 59 := Nat.pow_le_pow_right (by decide) (by omega)
  have hd : n / 2 ^ (t + 1) = n / 2 ^ t / 2 := by rw [Nat.pow_succ, Nat.div_div_eq_div_mul]
  have hlt := h.lt hn (by omega)
  unfold Sar at h ⊢
  rw [show 60 - (t + 1) = 59 - t by omega, hd]
  rw [e0] at h
  have hX : n / 2 ^ t < 2 * 2 ^ (59 - t) := Nat.div_lt_of_lt_mul (by
    have : 2 ^ t * (2 * 2 ^ (59 - t)) = 2 ^ 60 := by rw [Nat.mul_left_comm, Nat.mul_comm (2 ^ t), e1]
    omega)
  rcases (show n / 2 ^ 59 = 0 ∨ n / 2 ^ 59 = 1 by omega) with e | e
  · have hX0 : n / 2 ^ t < 2 ^ (59 - t) := Nat.div_lt_of_lt_mul (by rw [Nat.mul_comm, e1]; omega)
    rw [e] at h ⊢
    generalize n / 2 ^ t = X at h hX0 ⊢
    generalize 2 ^ (59 - t) = Q at h hX0 hP
    omega
  · have hX1 : 2 ^ (59 - t) ≤ n / 2 ^ t := (Nat.le_div_iff_mul_le (Nat.two_pow_pos t)).mpr (by rw [e1]; omega)
    rw [e] at h ⊢
    generalize n / 2 ^ t = X at h hX hX1 ⊢
    generalize 2 ^ (59 - t) = Q at h hX hX1 hP hp ⊢
    omega
theorem Sar.stay {n v : Nat} (hn : n < 2 ^ 60) (h : Sar n 60 v) : v / 2 ^ 59 * 2 ^ 59 + v / 2 = v := by
  unfold Sar at h
  have e : n / 2 ^ 60 = 0 := Nat.div_eq_of_lt hn
  rw [e] at h
  rcases (show n / 2 ^ 59 = 0 ∨ n / 2 ^ 59 = 1 by omega) with e | e
  · rw [e] at h; omega
  · rw [e] at h; omega
theorem right_loop {n m : Nat} (hn : n < 2 ^ 60) (hm : m < 64) : ∀ (fuel t v : Nat), t ≤ m → m < t + fuel → Sar n (min t 60) v → ∃ w, F_X9_right_5 fuel (nI m) (lN v) (nI t) = lN w ∧ Sar n (min m 60) w := by
  intro fuel
  induction fuel with
  | zero => intro t v h1 h2; omega
  | succ f ih =>
    intro t v h1 h2 h
    have hlt := h.lt hn (by omega)
    rw [F_X9_right_5]
    by_cases c : nI m ≤ nI t
    · rw [if_pos c]
      have : t = m := by
        have := (nI_leI (by omega) (by omega)).mp c
        omega
      subst this
      exact ⟨v, rfl, h⟩
    · rw [if_neg c, right_step hlt, show nI t + (1 : Int32) = nI (t + 1) from nI_1 t]
      have c' : t < m := by
        rcases Nat.lt_or_ge t m with q | q
        · exact q
        · exact absurd (nI_le q (by omega)) c
      refine ih (t + 1) _ c' (by omega) ?_
      rcases Nat.lt_or_ge t 60 with q | q
      · rw [show min (t + 1) 60 = t + 1 by omega]
        rw [show min t 60 = t by omega] at h
        exact h.step hn q
      · rw [show min (t + 1) 60 = 60 by omega]
        rw [show min t 60 = 60 by omega] at h
        rw [h.stay hn]
        exact h
theorem min60 {m : Nat} (hm : m < 64) : (if (60 : Int32) < nI m then (60 : Int32) else nI m) = nI (min m 60) := by
  by_cases c : (60 : Int32) < nI m
  · have := (nI_ltI (a := 60) (b := m) (by omega) (by omega)).mp c
    rw [if_pos c, show min m 60 = 60 by omega]; rfl
  · have : ¬ 60 < m := fun q => c ((nI_ltI (a := 60) (b := m) (by omega) (by omega)).mpr q)
    rw [if_neg c, show min m 60 = m by omega]
theorem right_eq {n m : Nat} (hn : n < 2 ^ 60) (hm : m < 64) : F_X4_shiftedRight (lN n) (nI m) = F_X9_right (lN n) (nI m) := by
  obtain ⟨w, hw, hs⟩ := right_loop hn hm 65 0 n (Nat.zero_le _) (by omega) (by simpa using Sar.zero)
  unfold F_X9_right
  rw [show (0 : Int32) = nI 0 from rfl, hw]
  have ht : min m 60 ≤ 60 := Nat.min_le_right _ _
  have hneg : (F_X4_isNegative (lN n) = 0) ↔ n / 2 ^ 59 = 0 := by
    unfold F_X4_isNegative
    rw [show lN n >>> ((59 : Int32).toInt64 &&& 63) = lN (n / 2 ^ 59) from pf_shr (d := 59) (by decide) (by omega), wb_a1 (by omega), Nat.mod_eq_of_lt (show n / 2 ^ 59 < 2 by omega)]
    rcases (show n / 2 ^ 59 = 0 ∨ n / 2 ^ 59 = 1 by omega) with e | e
    · rw [e]; decide
    · rw [e]; decide
  unfold F_X4_shiftedRight F_X4_shiftedRight_16
  rw [min60 hm]
  generalize min m 60 = t at ht hs
  have ep : 2 ^ (60 - t) * 2 ^ t = 2 ^ 60 := by rw [← Nat.pow_add]; congr 1; omega
  have hX : n / 2 ^ t < 2 ^ (60 - t) := Nat.div_lt_of_lt_mul (by rw [Nat.mul_comm, ep]; exact hn)
  have h2 : 2 ^ (60 - t) ≤ 2 ^ 60 := Nat.pow_le_pow_right (by decide) (by omega)
  have hmask : ∀ k : Nat, k < 2 ^ 64 → lN k &&& (1152921504606846975 : Int64) = lN (k % 2 ^ 60) := fun k hk => wb_mask (k := 60) hk (by decide)
  by_cases c : F_X4_isNegative (lN n) = 0
  · rw [if_pos c, pf_shr (sh_D (by omega)) (by omega), hmask _ (by omega), Nat.mod_eq_of_lt (by omega)]
    have e := hneg.mp c
    unfold Sar at hs
    rw [e] at hs
    rw [hs]; congr 1; omega
  · rw [if_neg c]
    have e : n / 2 ^ 59 = 1 := by
      have : ¬ n / 2 ^ 59 = 0 := fun q => c (hneg.mpr q)
      omega
    unfold Sar at hs
    rw [e] at hs
    have eo : lN n ||| (-1152921504606846976 : Int64) = lN (15 * 2 ^ 60 + n) := by
      rw [Int64.or_comm, show (-1152921504606846976 : Int64) = lN (15 * 2 ^ 60) from by decide]
      exact or_low (k := 60) hn (by omega)
    rw [eo]
    obtain ⟨k, hk, ek⟩ := wb_of (lN (15 * 2 ^ 60 + n) >>> ((nI t).toInt64 &&& 63))
    have hti : (lN (15 * 2 ^ 60 + n) >>> ((nI t).toInt64 &&& 63)).toInt = (lN (15 * 2 ^ 60 + n)).toInt >>> t := by
      have hD := sh_D (t := t) (by omega)
      have : (lN (15 * 2 ^ 60 + n) >>> ((nI t).toInt64 &&& 63)).toInt = (lN (15 * 2 ^ 60 + n)).toInt >>> ((((nI t).toInt64 &&& 63) : Int64).toBitVec.smod 64).toNat := BitVec.toInt_sshiftRight ..
      rw [hD] at this
      exact this
    rw [ek] at hti ⊢
    rw [hmask k hk]
    have hi0 : (lN (15 * 2 ^ 60 + n)).toInt = ((15 * 2 ^ 60 + n : Nat) : Int) - 2 ^ 64 := by rw [lN_ti' (show 15 * 2 ^ 60 + n < 2 ^ 64 by omega), if_neg (by omega)]
    rw [lN_ti' hk, hi0, Int.shiftRight_eq_div_pow] at hti
    have en : (((15 * 2 ^ 60 + n : Nat) : Int) - 2 ^ 64) = (n : Int) - ((2 ^ (60 - t) : Nat) : Int) * ((2 ^ t : Nat) : Int) := by
      have : ((2 ^ (60 - t) : Nat) : Int) * ((2 ^ t : Nat) : Int) = ((2 ^ 60 : Nat) : Int) := by rw [← Int.natCast_mul, ep]
      rw [this]; omega
    rw [en, Int.sub_mul_ediv_right _ _ (by have := Nat.two_pow_pos t; omega), ← Int.natCast_ediv] at hti
    generalize n / 2 ^ t = X at hti hs hX
    generalize 2 ^ (60 - t) = Q at hti hs hX h2
    have hk2 : k % 2 ^ 60 = w := by
      split at hti <;> omega
    rw [hk2]
theorem high_eq : ∀ m, m < 64 → F_X4_highestBits (nI m) = (1152921504606846975 : Int64) - (if (60 : Int32) ≤ nI m then (0 : Int64) else (1152921504606846975 : Int64) >>> ((nI m).toInt64 &&& 63)) := by decide +kernel
