/-- the size of an instruction -/
def Sz (o : Nat) : Nat := if (0 < o ∧ o < 8) ∨ (40 ≤ o ∧ o < 64 ∧ o % 8 < 3) then 2 else 1
theorem sz_par : ∀ o, o < 64 → F_X1_parcels (nI o) = nI (Sz o) := by decide +kernel
theorem sz_has : ∀ o, o < 64 → (if F_X9_hasNumber (nI o) = 0 then (1 : Int32) else (2 : Int32)) = nI (Sz o) := by decide +kernel
theorem sz_two : ∀ o, o < 64 → Sz o = 1 ∨ Sz o = 2 := by decide +kernel
theorem stop_eq : ∀ o, o < 64 → ∀ i, i < 8 → ∀ p, p < 4 → F_X1_stopCode (nI o) (nI i) (nI (4 - p)) (F_X1_unitOf (nI o)) = (if o = 0 then (0 : Int32) else if F_X9_isUnknown (nI p) (nI o) (nI i) (nI (Sz o)) = 0 then 3 else 1) := by decide +kernel
theorem lN_and15 (w : Nat) : lN w &&& (32767 : Int64) = lN (w % 2 ^ 15) := by
  have h : lN (w % 2 ^ 64) &&& lN (2 ^ 15 - 1) = lN (w % 2 ^ 64 % 2 ^ 15) := wb_mask (Nat.mod_lt _ (by decide)) (by decide)
  rw [wb_mod w]
  rw [show (32767 : Int64) = lN (2 ^ 15 - 1) from rfl, h, Nat.mod_mod_of_dvd _ (show 2 ^ 15 ∣ 2 ^ 64 from ⟨2 ^ 49, rfl⟩)]
theorem nI_and (w : Nat) {m : Int32} (k : Nat) (hk : k ≤ 32) (hm : m.toBitVec.toNat = 2 ^ k - 1) : nI w &&& m = nI (w % 2 ^ k) := by
  rw [pk_and _ k hm]
  congr 1
  rw [show (nI w).toBitVec = BitVec.ofNat 32 w from rfl, BitVec.toNat_ofNat, Nat.mod_mod_of_dvd _ (Nat.pow_dvd_pow 2 hk)]
theorem nI_shr {a : Nat} (s : Int32) (k : Nat) (hs : (s.toBitVec.smod 32).toNat = k) (h : a < 2 ^ 31) : nI a >>> s = nI (a / 2 ^ k) := by
  have hd : a / 2 ^ k ≤ a := Nat.div_le_self _ _
  apply Int32.toInt_inj.mp
  rw [pk_shr _ _ k hs, nI_toInt h, nI_toInt (by omega), Int.shiftRight_eq_div_pow]
  rfl
/-- the parcel p of a word -/
def Pv (w p : Nat) : Nat := w / 2 ^ (15 * (3 - p)) % 2 ^ 15
theorem pv_lt (w p : Nat) : Pv w p < 2 ^ 15 := Nat.mod_lt _ (by decide)
theorem sh15 : ∀ d, d < 4 → (((((15 : Int32) * nI d).toInt64 &&& 63) : Int64).toBitVec.smod 64).toNat = 15 * d := by decide +kernel
theorem parcel_c {w p : Nat} (hw : w < 2 ^ 60) (hp : p < 4) : ((lN w) >>> (((15 : Int32) * (((4 : Int32) - nI p) - (1 : Int32))).toInt64 &&& 63)).toInt32 &&& (32767 : Int32) = nI (Pv w p) := by
  rw [show (4 : Int32) - nI p - (1 : Int32) = nI (3 - p) from by rcases (show p = 0 ∨ p = 1 ∨ p = 2 ∨ p = 3 by omega) with rfl | rfl | rfl | rfl <;> decide]
  rw [pf_shr (sh15 (3 - p) (by omega)) (by omega), lN_i, nI_and _ 15 (by decide) (by decide)]
  rfl
theorem parcel_m {w p : Nat} (hw : w < 2 ^ 60) (hp : p < 4) {xw : Int32} {f : Nat → Int64} (hf : f xw.toNatClampNeg = lN w) : F_X9_parcelAt (nI p) xw f = nI (Pv w p) := by
  unfold F_X9_parcelAt
  rw [hf, show (3 : Int32) - nI p = nI (3 - p) from by rcases (show p = 0 ∨ p = 1 ∨ p = 2 ∨ p = 3 by omega) with rfl | rfl | rfl | rfl <;> decide]
  rw [pf_shr (sh15 (3 - p) (by omega)) (by omega), lN_and15, lN_i]
  rfl
/-- the number behind a parcel -/
def Pn (w p : Nat) : Nat := if p < 3 then w / 2 ^ (15 * (2 - p)) % 2 ^ 18 else 0
theorem pn_le (w p : Nat) : Pn w p ≤ O18 := by
  unfold Pn O18
  split
  · have := Nat.mod_lt (w / 2 ^ (15 * (2 - p))) (show 0 < 2 ^ 18 by decide)
    omega
  · omega
theorem number_c {w p : Nat} (hw : w < 2 ^ 60) (hp : p < 3) : ((lN w) >>> (((15 : Int32) * (((4 : Int32) - nI p) - (2 : Int32))).toInt64 &&& 63)).toInt32 &&& (262143 : Int32) = nI (Pn w p) := by
  rw [show (4 : Int32) - nI p - (2 : Int32) = nI (2 - p) from by rcases (show p = 0 ∨ p = 1 ∨ p = 2 by omega) with rfl | rfl | rfl <;> decide]
  rw [pf_shr (sh15 (2 - p) (by omega)) (by omega), lN_i, nI_and _ 18 (by decide) (by decide), Pn, if_pos hp]
theorem number_m {w p : Nat} (hw : w < 2 ^ 60) (hp : p < 3) {xw : Int32} {f : Nat → Int64} (hf : f xw.toNatClampNeg = lN w) : (nI (Pv w p % 8) <<< ((15 : Int32) &&& 31)) ||| (F_X9_parcelAt (nI p + (1 : Int32)) xw f) = nI (Pn w p) := by
  rw [nI_1, parcel_m hw (by omega) hf, pk_shlN _ 15 (by decide) (by have := Nat.mod_lt (Pv w p) (show 0 < 8 by decide); omega)]
  have hv := pv_lt w (p + 1)
  have h8 := Nat.mod_lt (Pv w p) (show 0 < 8 by decide)
  have e : nI (Pv w p % 8 * 2 ^ 15) ||| nI (Pv w (p + 1)) = nI (Pv w p % 8 * 2 ^ 15 ||| Pv w (p + 1)) := by
    apply Int32.toBitVec_inj.mp
    rw [Int32.toBitVec_or]
    show BitVec.ofNat 32 _ ||| BitVec.ofNat 32 _ = BitVec.ofNat 32 _
    apply BitVec.eq_of_toNat_eq
    have ho : Pv w p % 8 * 2 ^ 15 ||| Pv w (p + 1) < 2 ^ 32 := Nat.or_lt_two_pow (by omega) (by omega)
    rw [BitVec.toNat_or, BitVec.toNat_ofNat, BitVec.toNat_ofNat, BitVec.toNat_ofNat, Nat.mod_eq_of_lt (show Pv w p % 8 * 2 ^ 15 < 2 ^ 32 by omega), Nat.mod_eq_of_lt (show Pv w (p + 1) < 2 ^ 32 by omega), Nat.mod_eq_of_lt ho]
  rw [e, Nat.mul_comm, ← Nat.two_pow_add_eq_or_of_lt hv]
  congr 1
  rw [Pn, if_pos hp]
  unfold Pv
  rw [show 3 - (p + 1) = 2 - p by omega, show 15 * (3 - p) = 15 * (2 - p) + 15 by omega, Nat.pow_add, ← Nat.div_div_eq_div_mul]
  generalize w / 2 ^ (15 * (2 - p)) = q
  omega
/-- the four fields of a parcel -/
theorem fields {v : Nat} (hv : v < 2 ^ 15) : nI v >>> ((9 : Int32) &&& 31) = nI (v / 512) ∧ (nI v >>> ((6 : Int32) &&& 31)) &&& (7 : Int32) = nI (v / 64 % 8) ∧ (nI v >>> ((3 : Int32) &&& 31)) &&& (7 : Int32) = nI (v / 8 % 8) ∧ nI v &&& (7 : Int32) = nI (v % 8) := by
  refine ⟨?_, ?_, ?_, ?_⟩
  · exact nI_shr _ 9 (by decide) (by omega)
  · rw [nI_shr _ 6 (by decide) (by omega), nI_and _ 3 (by decide) (by decide)]
  · rw [nI_shr _ 3 (by decide) (by omega), nI_and _ 3 (by decide) (by decide)]
  · rw [nI_and _ 3 (by decide) (by decide)]
theorem decode_eq {w p : Nat} (hw : w < 2 ^ 60) (hp : p < 4) (ic iu nS : Int32) (nn : Nat → Int32) (rS : Int32) (rr : Nat → Int32) : F_X1_decode (lN w) (nI p) ic iu nS nn rS rr = F_X1_decode_94 (nI (Pn w p)) (nI (Pv w p / 512)) (nI (Pv w p / 64 % 8)) (nI (Pv w p / 8 % 8)) (nI (Pv w p % 8)) ic (nI (4 - p)) iu nS nn rS rr := by
  obtain ⟨f1, f2, f3, f4⟩ := fields (pv_lt w p)
  unfold F_X1_decode
  rw [parcel_c hw hp, f1, f2, f3, f4]
  have e4 : (4 : Int32) - nI p = nI (4 - p) := by rcases (show p = 0 ∨ p = 1 ∨ p = 2 ∨ p = 3 by omega) with rfl | rfl | rfl | rfl <;> decide
  by_cases c : p < 3
  · rw [number_c hw c, e4, if_pos (show (2 : Int32) ≤ nI (4 - p) from nI_le (a := 2) (by omega) (by omega))]
  · rw [e4, if_neg (show ¬ (2 : Int32) ≤ nI (4 - p) from nI_ge (b := 2) (by omega) (by omega))]
    rw [show Pn w p = 0 from by rw [Pn, if_neg c]]
    rfl
theorem take_eq {w p : Nat} (hw : w < 2 ^ 60) (hp : p < 4) {xw : Int32} {f : Nat → Int64} (hf : f xw.toNatClampNeg = lN w) (xn xz : Int32) : ∃ n, n ≤ O18 ∧ (Sz (Pv w p / 512) = 2 → n = Pn w p) ∧ F_X9_take xw (nI p) xn xz f = (nI (Pv w p / 512), nI (Pv w p / 64 % 8), nI (Pv w p / 8 % 8), nI (Pv w p % 8), nI n, nI (Sz (Pv w p / 512))) := by
  obtain ⟨f1, f2, f3, f4⟩ := fields (pv_lt w p)
  have ho : Pv w p / 512 < 64 := by have := pv_lt w p; omega
  have hs := sz_has _ ho
  unfold F_X9_take
  rw [parcel_m hw hp hf, f1, f2, f3, f4]
  by_cases c : F_X9_hasNumber (nI (Pv w p / 512)) = 0
  · rw [if_pos c] at hs ⊢
    have h1 : Sz (Pv w p / 512) = 1 := by
      have := sz_two _ ho
      rcases this with e | e
      · exact e
      · rw [e] at hs; exact absurd hs (by decide)
    refine ⟨0, by decide, fun h => by omega, ?_⟩
    unfold F_X9_take_62
    rw [if_neg (by decide), h1]
    rfl
  · rw [if_neg c] at hs ⊢
    have h1 : Sz (Pv w p / 512) = 2 := by
      have := sz_two _ ho
      rcases this with e | e
      · rw [e] at hs; exact absurd hs (by decide)
      · exact e
    refine ⟨Pn w p, pn_le w p, fun h => rfl, ?_⟩
    unfold F_X9_take_62
    rw [if_pos rfl, h1]
    by_cases q : p < 3
    · rw [if_neg (show ¬ (3 : Int32) ≤ nI p from nI_ge (b := 3) q (by omega)), number_m hw q hf]
      rfl
    · rw [if_pos (show (3 : Int32) ≤ nI p from nI_le (a := 3) (by omega) (by omega)), show Pn w p = 0 from by rw [Pn, if_neg q]]
      rfl
