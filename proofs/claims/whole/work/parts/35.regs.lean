/-! ===== lN n to 2^64: shifts, and, or, masks, one bit ===== -/
theorem wb_tb (n : Nat) : (lN n).toBitVec = BitVec.ofNat 64 n := rfl
theorem wb_inj {a b : Int64} (h : a.toBitVec = b.toBitVec) : a = b := Int64.toBitVec_inj.mp h
theorem wb_tn {n : Nat} (h : n < 2 ^ 64) : (lN n).toBitVec.toNat = n := by rw [wb_tb, BitVec.toNat_ofNat, Nat.mod_eq_of_lt h]
theorem wb_of (x : Int64) : ∃ n, n < 2 ^ 64 ∧ x = lN n := ⟨x.toBitVec.toNat, x.toBitVec.isLt, wb_inj (by rw [wb_tb]; simp)⟩
theorem wb_of32 (x : Int32) : ∃ n, n < 2 ^ 32 ∧ x = nI n := ⟨x.toBitVec.toNat, x.toBitVec.isLt, Int32.toBitVec_inj.mp (by show _ = BitVec.ofNat 32 _; simp)⟩
theorem wb_c : ∀ k, k < 64 → ((nI k).toInt64 &&& 63) = lN k := by decide +kernel
theorem wb_cu : ∀ k, k < 64 → ((nI k).toInt64.toUInt64 &&& Int64.toUInt64 63) = UInt64.ofNat k := by decide +kernel
theorem wb_sm : ∀ k, k < 64 → (BitVec.ofNat 64 k).smod 64 = BitVec.ofNat 64 k := by decide +kernel
theorem wb_pw {a b : Nat} (h : a ≤ b) : 2 ^ b = 2 ^ a * 2 ^ (b - a) := by rw [← Nat.pow_add]; congr 1; omega
theorem wb_lt2 {a b : Nat} (h : a < b) : 2 ^ a < 2 ^ b := Nat.pow_lt_pow_right (by decide) h
theorem wb_mod (n : Nat) : lN n = lN (n % 2 ^ 64) := wb_inj (by rw [wb_tb, wb_tb]; apply BitVec.eq_of_toNat_eq; rw [BitVec.toNat_ofNat, BitVec.toNat_ofNat, Nat.mod_mod])
theorem wb_shr {n k : Nat} (hn : n < 2 ^ 64) (hk : k < 64) : ((lN n).toUInt64 >>> ((nI k).toInt64.toUInt64 &&& Int64.toUInt64 63)).toInt64 = lN (n / 2 ^ k) := by
  rw [wb_cu k hk]
  apply wb_inj
  apply BitVec.eq_of_toNat_eq
  show ((lN n).toUInt64 >>> UInt64.ofNat k).toNat = (BitVec.ofNat 64 _).toNat
  have h1 : (UInt64.ofNat k).toNat = k := by
    show (BitVec.ofNat 64 k).toNat = k
    rw [BitVec.toNat_ofNat, Nat.mod_eq_of_lt (by omega)]
  have h2 : (lN n).toUInt64.toNat = n := wb_tn hn
  rw [UInt64.toNat_shiftRight, h1, h2, Nat.mod_eq_of_lt hk, Nat.shiftRight_eq_div_pow, BitVec.toNat_ofNat, Nat.mod_eq_of_lt (Nat.lt_of_le_of_lt (Nat.div_le_self _ _) hn)]
theorem wb_shl (n : Nat) {k : Nat} (hk : k < 64) : lN n <<< ((nI k).toInt64 &&& 63) = lN (n * 2 ^ k) := by
  rw [wb_c k hk]
  apply wb_inj
  rw [Int64.toBitVec_shiftLeft, wb_tb, wb_tb, wb_tb, wb_sm k hk]
  apply BitVec.eq_of_toNat_eq
  rw [BitVec.shiftLeft_eq', BitVec.toNat_shiftLeft, BitVec.toNat_ofNat, BitVec.toNat_ofNat, BitVec.toNat_ofNat, Nat.mod_eq_of_lt (show k < 2 ^ 64 by omega), Nat.shiftLeft_eq, Nat.mul_mod, Nat.mod_mod, ← Nat.mul_mod]
theorem wb_and {a b : Nat} (ha : a < 2 ^ 64) (hb : b < 2 ^ 64) : lN a &&& lN b = lN (a &&& b) := by
  apply wb_inj
  rw [Int64.toBitVec_and, wb_tb, wb_tb, wb_tb]
  apply BitVec.eq_of_toNat_eq
  rw [BitVec.toNat_and, BitVec.toNat_ofNat, BitVec.toNat_ofNat, BitVec.toNat_ofNat, Nat.mod_eq_of_lt ha, Nat.mod_eq_of_lt hb, Nat.mod_eq_of_lt (Nat.and_lt_two_pow _ hb)]
theorem wb_or {a b : Nat} (ha : a < 2 ^ 64) (hb : b < 2 ^ 64) : lN a ||| lN b = lN (a ||| b) := by
  apply wb_inj
  rw [Int64.toBitVec_or, wb_tb, wb_tb, wb_tb]
  apply BitVec.eq_of_toNat_eq
  rw [BitVec.toNat_or, BitVec.toNat_ofNat, BitVec.toNat_ofNat, BitVec.toNat_ofNat, Nat.mod_eq_of_lt ha, Nat.mod_eq_of_lt hb, Nat.mod_eq_of_lt (Nat.or_lt_two_pow ha hb)]
theorem wb_mask {n k : Nat} (hn : n < 2 ^ 64) (hk : k < 64) : lN n &&& lN (2 ^ k - 1) = lN (n % 2 ^ k) := by
  rw [wb_and hn (by have := wb_lt2 hk; omega), Nat.and_two_pow_sub_one_eq_mod]
theorem wb_a1 {n : Nat} (hn : n < 2 ^ 64) : lN n &&& 1 = lN (n % 2) := wb_mask (k := 1) hn (by decide)
theorem wb_bit {n k : Nat} (hn : n < 2 ^ 64) (hk : k < 64) : ((lN n).toUInt64 >>> ((nI k).toInt64.toUInt64 &&& Int64.toUInt64 63)).toInt64 &&& 1 = lN (n / 2 ^ k % 2) := by
  rw [wb_shr hn hk, wb_a1 (Nat.lt_of_le_of_lt (Nat.div_le_self _ _) hn)]
theorem wb_xor {q k : Nat} (hk : k < 63) (h : 2 ^ k ≤ q) (h2 : q < 2 ^ (k + 1)) : lN q ^^^ lN (2 ^ k) = lN (q - 2 ^ k) := by
  obtain ⟨r, rfl⟩ : ∃ r, q = 2 ^ k + r := ⟨q - 2 ^ k, by omega⟩
  have hr : r < 2 ^ k := by rw [Nat.pow_succ] at h2; omega
  have hx : (2 ^ k + r) ^^^ 2 ^ k = r := by
    apply Nat.eq_of_testBit_eq
    intro i
    rw [Nat.testBit_xor, Nat.testBit_two_pow]
    rcases Nat.lt_trichotomy i k with h | h | h
    · rw [Nat.testBit_two_pow_add_gt h]
      simp [show ¬ k = i by omega]
    · subst h
      rw [Nat.testBit_two_pow_add_eq]
      simp
    · have a1 : 2 ^ (k + 1) ≤ 2 ^ i := Nat.pow_le_pow_right (by decide) h
      rw [Nat.testBit_lt_two_pow (show 2 ^ k + r < 2 ^ i by omega), Nat.testBit_lt_two_pow (show r < 2 ^ i by omega)]
      simp [show ¬ k = i by omega]
  have b1 := wb_lt2 (show k + 1 < 64 by omega)
  have b2 := wb_lt2 (show k < 64 by omega)
  apply wb_inj
  rw [Int64.toBitVec_xor, wb_tb, wb_tb, wb_tb]
  apply BitVec.eq_of_toNat_eq
  rw [BitVec.toNat_xor, BitVec.toNat_ofNat, BitVec.toNat_ofNat, BitVec.toNat_ofNat, Nat.mod_eq_of_lt (by omega : 2 ^ k + r < 2 ^ 64), Nat.mod_eq_of_lt b2, hx, Nat.add_sub_cancel_left, Nat.mod_eq_of_lt (by omega)]
/-- a long that is a number up to M -/
def Nb (M : Nat) (v : Int64) : Prop := ∃ x : Nat, x ≤ M ∧ v = lN x
abbrev O60 : Nat := 1152921504606846975
abbrev O18 : Nat := 262143
theorem Nb.nn {M : Nat} {v : Int64} (h : Nb M v) (hM : M < 2 ^ 63) : (0 : Int64) ≤ v := by
  obtain ⟨x, h1, rfl⟩ := h
  exact (pk_lLE (a := 0) (by decide) (by omega)).mpr (Nat.zero_le x)
theorem nb_and18 (v : Int64) : Nb O18 (v &&& (262143 : Int64)) := by
  obtain ⟨n, hn, rfl⟩ := wb_of v
  exact ⟨n % 2 ^ 18, by have := Nat.mod_lt n (show 0 < 2 ^ 18 by decide); unfold O18; omega, wb_mask (k := 18) hn (by decide)⟩
theorem nb_and60 (v : Int64) : Nb O60 (v &&& (1152921504606846975 : Int64)) := by
  obtain ⟨n, hn, rfl⟩ := wb_of v
  exact ⟨n % 2 ^ 60, by have := Nat.mod_lt n (show 0 < 2 ^ 60 by decide); unfold O60; omega, wb_mask (k := 60) hn (by decide)⟩
def XM (n : Nat) : Nat := if n < 8 then O60 else O18
/-- the registers' ranges -/
def XRg (f : Nat → Int64) : Prop := ∀ n, n < 24 → Nb (XM n) (f n)
theorem XRg.s {f : Nat → Int64} (h : XRg f) {n : Nat} (h1 : 8 ≤ n) (h2 : n < 24) : Nb O18 (f n) := by
  have := h n h2
  rwa [XM, if_neg (by omega)] at this
theorem XRg.w {f : Nat → Int64} (h : XRg f) {n : Nat} (h1 : n < 8) : Nb O60 (f n) := by
  have := h n (by omega)
  rwa [XM, if_pos h1] at this
theorem R8.ca {x : Int32} (h : R8 x) : ∃ n : Nat, n < 8 ∧ x = nI n ∧ x.toNatClampNeg = n ∧ ((8 : Int32) + x).toNatClampNeg = 8 + n ∧ ((16 : Int32) + x).toNatClampNeg = 16 + n := by
  obtain ⟨n, h1, rfl⟩ := h
  refine ⟨n, h1, rfl, nI_clamp (by omega), ?_, ?_⟩
  · rw [show (8 : Int32) = nI 8 from rfl, nI_add]; exact nI_clamp (by omega)
  · rw [show (16 : Int32) = nI 16 from rfl, nI_add]; exact nI_clamp (by omega)
theorem nb_sum {M : Nat} (hM : M < 2 ^ 62) {a b : Int64} (ha : Nb M a) (hb : Nb M b) : Nb M (F_X9_sum a b (lN M)) := by
  obtain ⟨x, hx, rfl⟩ := ha
  obtain ⟨y, hy, rfl⟩ := hb
  have h23 : ∀ t : Int64, Nb M t → Nb M (F_X9_sum_23 (lN x) (lN y) (lN M) t) := by
    intro t ht
    unfold F_X9_sum_23
    repeat' split
    all_goals first | exact ht | exact ⟨0, Nat.zero_le _, rfl⟩
  unfold F_X9_sum
  rw [lN_add]
  split
  · rename_i c
    rw [pk_lLE (by omega) (by omega)] at c
    exact h23 _ ⟨x + y, c, rfl⟩
  · rename_i c
    rw [pk_lLE (by omega) (by omega)] at c
    exact h23 _ ⟨x + y - M, by omega, lN_sub (by omega)⟩
theorem nb_less {M : Nat} (hM : M < 2 ^ 62) {a b : Int64} (ha : Nb M a) (hb : Nb M b) : Nb M (F_X9_less a b (lN M)) := by
  obtain ⟨y, hy, rfl⟩ := hb
  unfold F_X9_less
  exact nb_sum hM ha ⟨M - y, by omega, lN_sub hy⟩
theorem nb_placed {xo xj xk xn : Int32} {xr : Nat → Int64} (hr : XRg xr) (hj : R8 xj) (hk : R8 xk) (hn : ∃ m : Nat, m ≤ O18 ∧ xn = nI m) : Nb O18 (F_X9_placed xo xj xk xn xr) := by
  obtain ⟨j, hj1, hj0, hj2, hj3, hj4⟩ := hj.ca
  obtain ⟨k, hk1, hk0, hk2, hk3, hk4⟩ := hk.ca
  obtain ⟨m, hm, rfl⟩ := hn
  have n1 : Nb O18 (xr ((8 : Int32) + xj).toNatClampNeg) := by rw [hj3]; exact hr.s (by omega) (by omega)
  have n2 : Nb O18 (xr ((16 : Int32) + xj).toNatClampNeg) := by rw [hj4]; exact hr.s (by omega) (by omega)
  have n3 : Nb O18 (xr ((16 : Int32) + xk).toNatClampNeg) := by rw [hk4]; exact hr.s (by omega) (by omega)
  have n4 : Nb O18 ((xr xj.toNatClampNeg) &&& (262143 : Int64)) := nb_and18 _
  have n5 : Nb O18 ((nI m).toInt64) := ⟨m, hm, nI_l (by unfold O18 at hm; omega)⟩
  have hS : ∀ {a b : Int64}, Nb O18 a → Nb O18 b → Nb O18 (F_X9_sum a b (262143 : Int64)) := fun ha hb => nb_sum (M := O18) (by decide) ha hb
  have hL : ∀ {a b : Int64}, Nb O18 a → Nb O18 b → Nb O18 (F_X9_less a b (262143 : Int64)) := fun ha hb => nb_less (M := O18) (by decide) ha hb
  unfold F_X9_placed
  repeat' split
  all_goals first | with_reducible exact hS n1 n3 | with_reducible exact hS n1 n5 | with_reducible exact hS n2 n3 | with_reducible exact hS n2 n5 | with_reducible exact hS n4 n3 | with_reducible exact hS n4 n5 | with_reducible exact hL n1 n3 | with_reducible exact hL n1 n5 | with_reducible exact hL n2 n3 | with_reducible exact hL n2 n5 | with_reducible exact hL n4 n3 | with_reducible exact hL n4 n5
theorem XRg.set {f : Nat → Int64} {n : Int32} {v : Int64} (h : XRg f) (hn : vp_in n 24) : XRg (F_X9_set n v f) := by
  obtain ⟨k, hk, rfl⟩ := vp_in_of hn (by decide)
  have hc : (nI k).toNatClampNeg = k := nI_clamp (by omega)
  unfold F_X9_set
  rw [hc]
  split
  · exact h
  · split
    · rename_i c1 c
      have h8 : 8 ≤ k := by
        rcases Nat.lt_or_ge k 8 with q | q
        · exact absurd c (nI_ge (a := k) (b := 8) q (by decide))
        · exact q
      intro j hj
      by_cases e : j = k
      · subst e
        rw [pk_uLs, XM, if_neg (by omega)]
        exact nb_and18 v
      · rw [pk_uLn e]
        exact h j hj
    · rename_i c1 c
      have h8 : k < 8 := by
        rcases Nat.lt_or_ge k 8 with q | q
        · exact q
        · exact absurd (nI_le (a := 8) (b := k) q (by omega)) c
      intro j hj
      by_cases e : j = k
      · subst e
        rw [pk_uLs, XM, if_pos h8]
        exact nb_and60 v
      · rw [pk_uLn e]
        exact h j hj
theorem XRg.act {xo xi xj xk xn : Int32} {xmw xr : Nat → Int64} (h : XRg xr) (hi : R8 xi) : XRg (F_X9_act xo xi xj xk xn xmw xr).2 := by
  have h1 : ∀ v, XRg (F_X9_set xi v xr) := fun v => h.set hi.x
  have h2 : ∀ v, XRg (F_X9_set ((16 : Int32) + xi) v xr) := fun v => h.set hi.b
  have h3 : ∀ v, XRg (F_X9_set ((8 : Int32) + xi) v xr) := fun v => h.set hi.a
  have h4 : ∀ v w, XRg (F_X9_set xi w (F_X9_set ((8 : Int32) + xi) v xr)) := fun v w => (h3 v).set hi.x
  unfold F_X9_act
  repeat' split
  all_goals dsimp only
  all_goals first | with_reducible exact h1 _ | with_reducible exact h2 _ | with_reducible exact h3 _ | with_reducible exact h4 _ _
theorem nx_or (a b : Nat) : nI a ||| nI b = nI (a ||| b) := by
  apply Int32.toBitVec_inj.1
  show BitVec.ofNat 32 a ||| BitVec.ofNat 32 b = BitVec.ofNat 32 (a ||| b)
  apply BitVec.eq_of_getLsbD_eq
  intro i hi
  simp [BitVec.getLsbD_ofNat, hi, Nat.testBit_or]
theorem parcel_r (q w : Int32) (f : Nat → Int64) : ∃ m : Nat, m < 2 ^ 15 ∧ F_X9_parcelAt q w f = nI m := by
  unfold F_X9_parcelAt
  obtain ⟨n, hn, e⟩ := wb_of ((f w.toNatClampNeg) >>> (((15 : Int32) * ((3 : Int32) - q)).toInt64 &&& 63))
  refine ⟨n % 2 ^ 15, Nat.mod_lt _ (by decide), ?_⟩
  rw [e]
  have := wb_mask (n := n) (k := 15) hn (by decide)
  rw [show (32767 : Int64) = lN (2 ^ 15 - 1) from rfl, this, lN_i]
theorem or_r {k : Int32} (hk : R8 k) {x : Int32} (hx : ∃ m : Nat, m < 2 ^ 15 ∧ x = nI m) : ∃ m : Nat, m ≤ O18 ∧ (k <<< ((15 : Int32) &&& 31)) ||| x = nI m := by
  obtain ⟨a, ha, rfl⟩ := hk
  obtain ⟨b, hb, rfl⟩ := hx
  refine ⟨a * 2 ^ 15 + b, by unfold O18; omega, ?_⟩
  rw [pk_shlN ((15 : Int32) &&& 31) 15 (by decide) (by omega), nx_or]
  congr 1
  rw [Nat.mul_comm, ← Nat.two_pow_add_eq_or_of_lt hb]
abbrev TK : Type := Int32 × Int32 × Int32 × Int32 × Int32 × Int32
def KOk (K : TK) : Prop := R8 K.2.1 ∧ R8 K.2.2.1 ∧ R8 K.2.2.2.1 ∧ ∃ m : Nat, m ≤ O18 ∧ K.2.2.2.2.1 = nI m
theorem take_ok (xw xp xn xz : Int32) (f : Nat → Int64) : KOk (F_X9_take xw xp xn xz f) := by
  have h62 : ∀ {t o i j k : Int32}, R8 i → R8 j → R8 k → KOk (F_X9_take_62 xw xp f t o i j k xn xz) := by
    intro t o i j k hi hj hk
    unfold F_X9_take_62
    split
    · split
      · exact ⟨hi, hj, hk, 0, Nat.zero_le _, rfl⟩
      · exact ⟨hi, hj, hk, or_r hk (parcel_r _ _ _)⟩
    · exact ⟨hi, hj, hk, 0, Nat.zero_le _, rfl⟩
  unfold F_X9_take
  split
  · exact h62 (r8_and _) (r8_and _) (r8_and _)
  · exact h62 (r8_and _) (r8_and _) (r8_and _)
theorem xn_nn {x : Int32} (h : ∃ m : Nat, m ≤ O18 ∧ x = nI m) : ¬ x < 0 := by
  obtain ⟨m, h1, rfl⟩ := h
  exact nI_pos (by unfold O18 at h1; omega)
