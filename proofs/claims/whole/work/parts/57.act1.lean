theorem set_val {i : Nat} (hi : i < 8) {v v' : Int64} (h : v &&& (1152921504606846975 : Int64) = v' &&& (1152921504606846975 : Int64)) (gv : Nat → Int64) : F_X6_set (nI i) v gv = F_X9_set (nI i) v' gv := by
  unfold F_X6_set F_X6_set_27 F_X9_set
  rw [if_neg (show ¬ nI i = (16 : Int32) from fun x => by have := nI_inj (b := 16) (by omega) (by omega) x; omega), if_neg (show ¬ nI i = (16 : Int32) from fun x => by have := nI_inj (b := 16) (by omega) (by omega) x; omega), if_neg (show ¬ (8 : Int32) ≤ nI i from nI_ge (b := 8) hi (by omega)), if_neg (show ¬ (8 : Int32) ≤ nI i from nI_ge (b := 8) hi (by omega)), h]
theorem and_mm (a m : Int64) : (a &&& m) &&& m = a &&& m := by rw [Int64.and_assoc, Int64.and_self]
theorem or_m (a b m : Int64) : (a ||| b) &&& m = (a &&& m) ||| (b &&& m) := by
  apply Int64.toBitVec_inj.mp
  simp only [Int64.toBitVec_and, Int64.toBitVec_or]
  ext i h
  simp only [BitVec.getElem_and, BitVec.getElem_or]
  cases (a.toBitVec[i]) <;> cases (b.toBitVec[i]) <;> cases (m.toBitVec[i]) <;> rfl
theorem xor_m (a b m : Int64) : (a ^^^ b) &&& m = (a &&& m) ^^^ (b &&& m) := by
  apply Int64.toBitVec_inj.mp
  simp only [Int64.toBitVec_and, Int64.toBitVec_xor]
  ext i h
  simp only [BitVec.getElem_and, BitVec.getElem_xor]
  cases (a.toBitVec[i]) <;> cases (b.toBitVec[i]) <;> cases (m.toBitVec[i]) <;> rfl
theorem inv_m {y : Nat} (hy : y < 2 ^ 60) : (lN y ^^^ (-1 : Int64)) &&& (1152921504606846975 : Int64) = ((1152921504606846975 : Int64) - lN y) &&& (1152921504606846975 : Int64) := by
  have e : (1152921504606846975 : Int64) - lN y = lN (2 ^ 60 - 1 - y) := by
    rw [show (1152921504606846975 : Int64) = lN (2 ^ 60 - 1) from rfl, lN_sub (by omega)]
  rw [not_mask hy, e]
  have h := wb_mask (n := 2 ^ 60 - 1 - y) (k := 60) (by omega) (by decide)
  rw [show (1152921504606846975 : Int64) = lN (2 ^ 60 - 1) from rfl, h, Nat.mod_eq_of_lt (by omega)]
theorem jk_c : ∀ j, j < 8 → ∀ k, k < 8 → F_X1_jk (nI j) (nI k) = nI (8 * j + k) := by decide +kernel
theorem jk_m (j k : Nat) : (8 : Int32) * nI j + nI k = nI (8 * j + k) := by
  rw [show (8 : Int32) = nI 8 from rfl, pk_mul, nI_add]
theorem logic_eq {o : Nat} (h8 : 8 ≤ o) (h16 : o < 16) {x y : Nat} (hx : x < 2 ^ 60) (hy : y < 2 ^ 60) {xj xk : Int32} {gv : Nat → Int64} (ej : gv xj.toNatClampNeg = lN x) (ek : gv xk.toNatClampNeg = lN y) : F_X7_logic (nI o) (lN x) (lN y) &&& (1152921504606846975 : Int64) = F_X9_mixed (nI o) xj xk gv &&& (1152921504606846975 : Int64) := by
  have hi := inv_m hy
  unfold F_X7_logic F_X9_mixed
  rw [ej, ek]
  rcases (show o = 8 ∨ o = 9 ∨ o = 10 ∨ o = 11 ∨ o = 12 ∨ o = 13 ∨ o = 14 ∨ o = 15 by omega) with rfl | rfl | rfl | rfl | rfl | rfl | rfl | rfl <;> simp (decide := true) only [if_true, if_false]
  · exact hi
  · rw [Int64.and_assoc, hi, Int64.and_assoc]
  · rw [or_m, hi, ← or_m]
  · rw [xor_m, hi, ← xor_m]
theorem shby_eq {x y : Nat} (hx : x < 2 ^ 60) (hy : y ≤ O18) {o : Nat} (ho : o = 18 ∨ o = 19) {xi xj xk : Int32} {gv : Nat → Int64} (ek : gv xk.toNatClampNeg = lN x) (eb : gv ((16 : Int32) + xj).toNatClampNeg = lN y) : F_X7_shiftBy (lN x) (lN y) (if o = 18 then (1 : Int32) else (0 : Int32)) = F_X9_shifted (nI o) xi xj xk gv := by
  have hy' : y < 2 ^ 18 := by unfold O18 at hy; omega
  have hc : lN y ≤ (131071 : Int64) ↔ y ≤ 131071 := pk_lLE (b := 131071) (by omega) (by omega)
  have hd : nI y ≤ (131071 : Int32) ↔ y ≤ 131071 := nI_leI (b := 131071) (by omega) (by omega)
  have m1 : nI y &&& (63 : Int32) = nI (y % 64) := nI_and y 6 (by decide) (by decide)
  have m2 : (lN y ^^^ (-1 : Int64)).toInt32 &&& (63 : Int32) = nI (63 - y % 64) := by
    have e : lN y ^^^ (-1 : Int64) = lN (2 ^ 64 - 1 - y) := by
      apply wb_inj
      rw [Int64.toBitVec_xor, wb_tb, wb_tb, show (-1 : Int64).toBitVec = BitVec.ofNat 64 (2 ^ 64 - 1) from by decide]
      apply BitVec.eq_of_toNat_eq
      rw [BitVec.toNat_xor, BitVec.toNat_ofNat, BitVec.toNat_ofNat, BitVec.toNat_ofNat, Nat.mod_eq_of_lt (show y < 2 ^ 64 by omega), Nat.mod_eq_of_lt (show 2 ^ 64 - 1 < 2 ^ 64 by omega), Nat.mod_eq_of_lt (show 2 ^ 64 - 1 - y < 2 ^ 64 by omega), nat_xor_all (k := 64) (by omega)]
    rw [e, lN_i, nI_and _ 6 (by decide) (by decide)]
    congr 1
    omega
  have m3 : ((262143 : Int32) - nI y) &&& (63 : Int32) = nI (63 - y % 64) := by
    rw [show (262143 : Int32) = nI 262143 from rfl, pk_sub (by omega), nI_and _ 6 (by decide) (by decide)]
    congr 1
    omega
  unfold F_X7_shiftBy F_X7_shiftBy_20 F_X9_shifted F_X4_isShortNegative
  rw [ek, eb, lN_i, m1, m2, m3]
  have r1 := right_eq (m := y % 64) hx (by omega)
  have r2 := round_eq (m := y % 64) hx (by omega)
  have r3 := right_eq (m := 63 - y % 64) hx (by omega)
  have r4 := round_eq (m := 63 - y % 64) hx (by omega)
  by_cases c : y ≤ 131071
  · rw [if_pos (hc.mpr c), if_pos (hd.mpr c)]
    rcases ho with rfl | rfl
    · simp (decide := true) only [if_true, if_false]
      exact r2
    · simp (decide := true) only [if_true, if_false]
      exact r1
  · rw [if_neg (fun q => c (hc.mp q)), if_neg (fun q => c (hd.mp q))]
    rcases ho with rfl | rfl
    · simp (decide := true) only [if_true, if_false]
      exact r3
    · simp (decide := true) only [if_true, if_false]
      exact r4
theorem act_lo {o i j k : Nat} {ic : Int32} {gv mw : Nat → Int64} (ho : (8 ≤ o ∧ o < 20) ∨ (o = 30 ∨ o = 31 ∨ o = 35 ∨ o = 39)) (hi : i < 8) (hj : j < 8) (hk : k < 8) (hX : XRg gv) : F_X7_apply (nI o) (nI i) (nI j) (nI k) ic (F_X1_unitOf (nI o)) gv mw = (F_X9_set (nI i) (F_X9_reckoned (nI o) (nI i) (nI j) (nI k) gv) gv, mw) := by
  have ci := clj (show i < 24 by omega)
  have cj := clj (show j < 24 by omega)
  have ck := clj (show k < 24 by omega)
  have cb := cl16 hj
  obtain ⟨x, hx, ex⟩ := hX.w hi
  obtain ⟨y, hy, ey⟩ := hX.w hj
  obtain ⟨z, hz, ez⟩ := hX.w hk
  obtain ⟨b, hb, eb⟩ := hX.s (n := 16 + j) (by omega) (by omega)
  have hx' : x < 2 ^ 60 := by unfold O60 at hx; omega
  have hy' : y < 2 ^ 60 := by unfold O60 at hy; omega
  have hz' : z < 2 ^ 60 := by unfold O60 at hz; omega
  have fi : gv (nI i).toNatClampNeg = lN x := by rw [ci]; exact ex
  have fj : gv (nI j).toNatClampNeg = lN y := by rw [cj]; exact ey
  have fk : gv (nI k).toNatClampNeg = lN z := by rw [ck]; exact ez
  have fb : gv ((16 : Int32) + nI j).toNatClampNeg = lN b := by rw [cb]; exact eb
  have hjk : 8 * j + k < 64 := by omega
  have key : ∀ v : Int64, v &&& (1152921504606846975 : Int64) = F_X9_reckoned (nI o) (nI i) (nI j) (nI k) gv &&& (1152921504606846975 : Int64) → (F_X6_set (nI i) v gv, mw) = (F_X9_set (nI i) (F_X9_reckoned (nI o) (nI i) (nI j) (nI k) gv) gv, mw) := fun v h => by rw [set_val hi h]
  rcases ho with ho | rfl | rfl | rfl | rfl
  · rcases Nat.lt_or_ge o 16 with c | c
    · rw [show F_X1_unitOf (nI o) = 0 from by rcases (show o = 8 ∨ o = 9 ∨ o = 10 ∨ o = 11 ∨ o = 12 ∨ o = 13 ∨ o = 14 ∨ o = 15 by omega) with rfl | rfl | rfl | rfl | rfl | rfl | rfl | rfl <;> decide]
      simp (decide := true) only [F_X7_apply, F_X1_unit, F_X1_op, F_X1_i, F_X1_j, F_X1_k, F_X6_x, if_true]
      refine key _ ?_
      rw [fj, fk]
      have hr : F_X9_reckoned (nI o) (nI i) (nI j) (nI k) gv = F_X9_mixed (nI o) (nI j) (nI k) gv := by
        unfold F_X9_reckoned
        rw [if_neg (show ¬ (16 : Int32) ≤ nI o from nI_ge (b := 16) c (by omega))]
      rw [hr]
      exact logic_eq ho.1 c hy' hz' fj fk
    · rw [show F_X1_unitOf (nI o) = 1 from by rcases (show o = 16 ∨ o = 17 ∨ o = 18 ∨ o = 19 by omega) with rfl | rfl | rfl | rfl <;> decide]
      have hr : F_X9_reckoned (nI o) (nI i) (nI j) (nI k) gv = F_X9_shifted (nI o) (nI i) (nI j) (nI k) gv := by
        unfold F_X9_reckoned
        rw [if_pos (show (16 : Int32) ≤ nI o from nI_le (a := 16) c (by omega)), if_neg (show ¬ (20 : Int32) ≤ nI o from nI_ge (b := 20) ho.2 (by omega))]
      rw [hr] at key ⊢
      rcases (show o = 16 ∨ o = 17 ∨ o = 18 ∨ o = 19 by omega) with rfl | rfl | rfl | rfl
      · simp (decide := true) only [F_X7_apply, F_X7_shift, F_X1_unit, F_X1_op, F_X1_i, F_X1_j, F_X1_k, F_X6_x, if_true, if_false]
        refine key _ ?_
        simp (decide := true) only [F_X9_shifted, if_true, if_false]
        rw [fi, jk_c j hj k hk, jk_m, round_eq hx' hjk]
      · simp (decide := true) only [F_X7_apply, F_X7_shift, F_X1_unit, F_X1_op, F_X1_i, F_X1_j, F_X1_k, F_X6_x, if_true, if_false]
        refine key _ ?_
        simp (decide := true) only [F_X9_shifted, if_true, if_false]
        rw [fi, jk_c j hj k hk, jk_m, right_eq hx' hjk]
      · simp (decide := true) only [F_X7_apply, F_X7_shift, F_X1_unit, F_X1_op, F_X1_i, F_X1_j, F_X1_k, F_X6_x, F_X6_b, if_true, if_false]
        refine key _ ?_
        rw [fk, fb, ← shby_eq hz' hb (Or.inl rfl) fk fb]
        rfl
      · simp (decide := true) only [F_X7_apply, F_X7_shift, F_X1_unit, F_X1_op, F_X1_i, F_X1_j, F_X1_k, F_X6_x, F_X6_b, if_true, if_false]
        refine key _ ?_
        rw [fk, fb, ← shby_eq hz' hb (Or.inr rfl) fk fb]
        rfl
  · simp (decide := true) only [F_X7_apply, F_X7_wordSum, F_X1_unit, F_X1_op, F_X1_i, F_X1_j, F_X1_k, F_X6_x, if_true, if_false]
    refine key _ ?_
    simp (decide := true) only [F_X9_reckoned, if_true, if_false]
    rw [fj, fk]
    have hs : F_X4_sum (lN y) (lN z) (1152921504606846975 : Int64) = F_X9_sum (lN y) (lN z) (1152921504606846975 : Int64) := sum_eq (k := 60) (by omega) ⟨y, hy, rfl⟩ ⟨z, hz, rfl⟩
    rw [hs]
  · simp (decide := true) only [F_X7_apply, F_X7_wordSum, F_X1_unit, F_X1_op, F_X1_i, F_X1_j, F_X1_k, F_X6_x, if_true, if_false]
    refine key _ ?_
    simp (decide := true) only [F_X9_reckoned, if_true, if_false]
    rw [fj, fk]
    have hs : F_X4_difference (lN y) (lN z) (1152921504606846975 : Int64) = F_X9_less (lN y) (lN z) (1152921504606846975 : Int64) := diff_eq (k := 60) (by omega) ⟨y, hy, rfl⟩ ⟨z, hz, rfl⟩
    rw [hs]
  · simp (decide := true) only [F_X7_apply, F_X7_shift, F_X1_unit, F_X1_op, F_X1_i, F_X1_j, F_X1_k, F_X6_x, if_true, if_false]
    refine key _ ?_
    simp (decide := true) only [F_X9_reckoned, if_true, if_false]
    rw [jk_c j hj k hk, jk_m, high_eq _ hjk]
    by_cases c : 60 ≤ 8 * j + k
    · rw [if_pos (show (60 : Int32) ≤ nI (8 * j + k) from nI_le (a := 60) c (by omega)), if_neg (show ¬ nI (8 * j + k) < (60 : Int32) from nI_nlt (b := 60) c (by omega))]
    · rw [if_neg (show ¬ (60 : Int32) ≤ nI (8 * j + k) from nI_ge (b := 60) (by omega) (by omega)), if_pos (show nI (8 * j + k) < (60 : Int32) from nI_lt (b := 60) (by omega) (by omega))]
  · simp (decide := true) only [F_X7_apply, F_X1_unit, F_X1_op, F_X1_i, F_X1_j, F_X1_k, F_X6_x, if_true, if_false]
    refine key _ ?_
    simp (decide := true) only [F_X9_reckoned, if_true, if_false]
    have hl := count_loop hz' fk 61 0 (by omega) (by omega)
    have hl' : F_X9_reckoned_151 (nI k) gv 61 (0 : Int64) (0 : Int32) = lN (pcn 60 z) := hl
    rw [fk, count_c hz', nI_l (by have := pcn_le z 60; omega), hl']
