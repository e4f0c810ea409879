/-- the number of bits below n -/
def pcn : Nat → Nat → Nat
  | 0, _ => 0
  | n + 1, x => pcn n x + x / 2 ^ n % 2
theorem pcn_le (x : Nat) : ∀ n, pcn n x ≤ n := by
  intro n
  induction n with
  | zero => exact Nat.le_refl _
  | succ k ih => rw [pcn]; have := Nat.mod_lt (x / 2 ^ k) (show 0 < 2 by decide); omega
theorem pcn_low (x1 : Nat) {x0 : Nat} (h : x0 < 256) : pcn 8 (x1 * 256 + x0) = pcn 8 x0 := by
  simp only [pcn]
  omega
theorem pcn_split {x1 x0 : Nat} (h : x0 < 256) : ∀ n, pcn (n + 8) (x1 * 256 + x0) = pcn n x1 + pcn 8 x0 := by
  intro n
  induction n with
  | zero => rw [Nat.zero_add, pcn_low x1 h]; simp [pcn]
  | succ k ih =>
    rw [show k + 1 + 8 = (k + 8) + 1 by omega, show pcn ((k + 8) + 1) (x1 * 256 + x0) = pcn (k + 8) (x1 * 256 + x0) + (x1 * 256 + x0) / 2 ^ (k + 8) % 2 from rfl, ih, show pcn (k + 1) x1 = pcn k x1 + x1 / 2 ^ k % 2 from rfl]
    have e : (x1 * 256 + x0) / 2 ^ (k + 8) = x1 / 2 ^ k := by
      rw [Nat.add_comm k 8, Nat.pow_add, ← Nat.div_div_eq_div_mul]
      congr 1
      omega
    rw [e]
    omega
theorem pcn_top {x : Nat} (h : x < 2 ^ 60) : pcn 64 x = pcn 60 x := by
  rw [pcn, pcn, pcn, pcn, Nat.div_eq_of_lt (show x < 2 ^ 63 by omega), Nat.div_eq_of_lt (show x < 2 ^ 62 by omega), Nat.div_eq_of_lt (show x < 2 ^ 61 by omega), Nat.div_eq_of_lt h]
  omega
theorem and_split {a1 a0 m1 m0 : Nat} (ha : a0 < 256) (hm : m0 < 256) : (a1 * 256 + a0) &&& (m1 * 256 + m0) = (a1 &&& m1) * 256 + (a0 &&& m0) := by
  have h0 : a0 &&& m0 < 2 ^ 8 := Nat.and_lt_two_pow _ hm
  apply Nat.eq_of_testBit_eq
  intro i
  rw [Nat.testBit_and, show a1 * 256 + a0 = 2 ^ 8 * a1 + a0 by omega, show m1 * 256 + m0 = 2 ^ 8 * m1 + m0 by omega, show (a1 &&& m1) * 256 + (a0 &&& m0) = 2 ^ 8 * (a1 &&& m1) + (a0 &&& m0) by omega, Nat.testBit_two_pow_mul_add _ (show a0 < 2 ^ 8 from ha), Nat.testBit_two_pow_mul_add _ (show m0 < 2 ^ 8 from hm), Nat.testBit_two_pow_mul_add _ h0]
  by_cases c : i < 8
  · simp only [if_pos c, Nat.testBit_and]
  · simp only [if_neg c, Nat.testBit_and]
/-- n bytes c -/
def Mb (c : Nat) : Nat → Nat
  | 0 => 0
  | n + 1 => Mb c n * 256 + c
def S1 (n x : Nat) : Nat := x - (x / 2 &&& Mb 85 n)
def S2 (n y : Nat) : Nat := (y &&& Mb 51 n) + (y / 4 &&& Mb 51 n)
def S3 (n z : Nat) : Nat := (z + z / 16) &&& Mb 15 n
theorem s1d : ∀ c, c < 2 → ∀ x, x < 256 → ((c * 128 + x / 2) &&& 85) = (x / 2 &&& 85) := by decide +kernel
theorem s1e : ∀ x, x < 256 → (x / 2 &&& 85) ≤ x := by decide +kernel
theorem s2d : ∀ c, c < 4 → ∀ x, x < 256 → ((c * 64 + x / 4) &&& 51) = (x / 4 &&& 51) := by decide +kernel
theorem s2e : ∀ x, x < 256 → (x - (x / 2 &&& 85)) < 256 ∧ ((x - (x / 2 &&& 85)) &&& 51) + ((x - (x / 2 &&& 85)) / 4 &&& 51) ≤ 68 ∧ (((x - (x / 2 &&& 85)) &&& 51) + ((x - (x / 2 &&& 85)) / 4 &&& 51)) % 16 ≤ 4 := by decide +kernel
theorem s3d : ∀ c, c ≤ 4 → ∀ z, z ≤ 68 → ((z + c * 16 + z / 16) &&& 15) = ((z + z / 16) &&& 15) := by decide +kernel
theorem s3e : ∀ x, x < 256 → ((((x - (x / 2 &&& 85)) &&& 51) + ((x - (x / 2 &&& 85)) / 4 &&& 51)) + (((x - (x / 2 &&& 85)) &&& 51) + ((x - (x / 2 &&& 85)) / 4 &&& 51)) / 16) &&& 15 = pcn 8 x := by decide +kernel
theorem S1s {n x1 x0 : Nat} (h : x0 < 256) : S1 (n + 1) (x1 * 256 + x0) = S1 n x1 * 256 + (x0 - (x0 / 2 &&& 85)) := by
  unfold S1
  rw [Mb, show (x1 * 256 + x0) / 2 = x1 / 2 * 256 + (x1 % 2 * 128 + x0 / 2) by omega, and_split (by omega) (by decide), s1d _ (by omega) _ h]
  have a : (x1 / 2 &&& Mb 85 n) ≤ x1 / 2 := Nat.and_le_left
  have b := s1e x0 h
  omega
theorem S2s {n y1 y0 : Nat} (h : y0 < 256) : S2 (n + 1) (y1 * 256 + y0) = S2 n y1 * 256 + ((y0 &&& 51) + (y0 / 4 &&& 51)) := by
  unfold S2
  rw [Mb, show (y1 * 256 + y0) / 4 = y1 / 4 * 256 + (y1 % 4 * 64 + y0 / 4) by omega, and_split h (by decide), and_split (by omega) (by decide), s2d _ (by omega) _ h]
  omega
theorem S3s {n z1 z0 : Nat} (h : z0 ≤ 68) (h1 : z1 % 16 ≤ 4) : S3 (n + 1) (z1 * 256 + z0) = S3 n z1 * 256 + ((z0 + z0 / 16) &&& 15) := by
  unfold S3
  rw [Mb, show z1 * 256 + z0 + (z1 * 256 + z0) / 16 = (z1 + z1 / 16) * 256 + (z0 + z1 % 16 * 16 + z0 / 16) by omega, and_split (by omega) (by decide), s3d _ h1 _ h]
/-- the class's bits of n bytes: a byte for each byte -/
theorem S_step {n x1 x0 : Nat} (h : x0 < 256) (h1 : S2 n (S1 n x1) % 16 ≤ 4) : S2 (n + 1) (S1 (n + 1) (x1 * 256 + x0)) % 16 ≤ 4 ∧ S3 (n + 1) (S2 (n + 1) (S1 (n + 1) (x1 * 256 + x0))) = S3 n (S2 n (S1 n x1)) * 256 + pcn 8 x0 := by
  obtain ⟨a, b, c⟩ := s2e x0 h
  rw [S1s h, S2s a]
  refine ⟨by omega, ?_⟩
  rw [S3s b h1, s3e x0 h]
theorem S_all {x : Nat} (h : x < 2 ^ 64) : ∃ p0 p1 p2 p3 p4 p5 p6 p7, (p0 ≤ 8 ∧ p1 ≤ 8 ∧ p2 ≤ 8 ∧ p3 ≤ 8 ∧ p4 ≤ 8 ∧ p5 ≤ 8 ∧ p6 ≤ 8 ∧ p7 ≤ 8) ∧ S3 8 (S2 8 (S1 8 x)) = (((((((p7 * 256 + p6) * 256 + p5) * 256 + p4) * 256 + p3) * 256 + p2) * 256 + p1) * 256 + p0) ∧ pcn 64 x = p0 + p1 + p2 + p3 + p4 + p5 + p6 + p7 := by
  have b0 : S2 0 (S1 0 0) % 16 ≤ 4 := by decide
  have z0 : S3 0 (S2 0 (S1 0 0)) = 0 := by decide
  have q : ∀ (n y : Nat) (v s : Nat), S2 n (S1 n (y / 256)) % 16 ≤ 4 → S3 n (S2 n (S1 n (y / 256))) = v → pcn (8 * n) (y / 256) = s → S2 (n + 1) (S1 (n + 1) y) % 16 ≤ 4 ∧ S3 (n + 1) (S2 (n + 1) (S1 (n + 1) y)) = v * 256 + pcn 8 (y % 256) ∧ pcn (8 * (n + 1)) y = s + pcn 8 (y % 256) := by
    intro n y v s h1 h2 h3
    have hy : y % 256 < 256 := Nat.mod_lt _ (by decide)
    obtain ⟨a, b⟩ := S_step (x1 := y / 256) hy h1
    rw [show y / 256 * 256 + y % 256 = y by omega] at a b
    refine ⟨a, by rw [b, h2], ?_⟩
    have := pcn_split (x1 := y / 256) hy (8 * n)
    rw [show y / 256 * 256 + y % 256 = y by omega] at this
    rw [show 8 * (n + 1) = 8 * n + 8 by omega, this, h3]
  have e7 : x / 256 / 256 / 256 / 256 / 256 / 256 / 256 / 256 = 0 := by omega
  obtain ⟨a7, b7, c7⟩ := q 0 (x / 256 / 256 / 256 / 256 / 256 / 256 / 256) 0 0 (by rw [e7]; exact b0) (by rw [e7]; exact z0) rfl
  obtain ⟨a6, b6, c6⟩ := q 1 (x / 256 / 256 / 256 / 256 / 256 / 256) _ _ a7 b7 c7
  obtain ⟨a5, b5, c5⟩ := q 2 (x / 256 / 256 / 256 / 256 / 256) _ _ a6 b6 c6
  obtain ⟨a4, b4, c4⟩ := q 3 (x / 256 / 256 / 256 / 256) _ _ a5 b5 c5
  obtain ⟨a3, b3, c3⟩ := q 4 (x / 256 / 256 / 256) _ _ a4 b4 c4
  obtain ⟨a2, b2, c2⟩ := q 5 (x / 256 / 256) _ _ a3 b3 c3
  obtain ⟨a1, b1, c1⟩ := q 6 (x / 256) _ _ a2 b2 c2
  obtain ⟨a0, b0, c0⟩ := q 7 x _ _ a1 b1 c1
  refine ⟨pcn 8 (x % 256), pcn 8 (x / 256 % 256), pcn 8 (x / 256 / 256 % 256), pcn 8 (x / 256 / 256 / 256 % 256), pcn 8 (x / 256 / 256 / 256 / 256 % 256), pcn 8 (x / 256 / 256 / 256 / 256 / 256 % 256), pcn 8 (x / 256 / 256 / 256 / 256 / 256 / 256 % 256), pcn 8 (x / 256 / 256 / 256 / 256 / 256 / 256 / 256 % 256), ⟨pcn_le _ 8, pcn_le _ 8, pcn_le _ 8, pcn_le _ 8, pcn_le _ 8, pcn_le _ 8, pcn_le _ 8, pcn_le _ 8⟩, ?_, ?_⟩
  · rw [b0, Nat.zero_mul, Nat.zero_add]
  · rw [show 64 = 8 * (7 + 1) by omega, c0]
    omega
theorem fin8 {p0 p1 p2 p3 p4 p5 p6 p7 v : Nat} (l0 : p0 ≤ 8) (l1 : p1 ≤ 8) (l2 : p2 ≤ 8) (l3 : p3 ≤ 8) (l4 : p4 ≤ 8) (l5 : p5 ≤ 8) (l6 : p6 ≤ 8) (l7 : p7 ≤ 8) (hv : v = (((((((p7 * 256 + p6) * 256 + p5) * 256 + p4) * 256 + p3) * 256 + p2) * 256 + p1) * 256 + p0)) : v + v / 2 ^ 8 < 2 ^ 64 ∧ v + v / 2 ^ 8 + (v + v / 2 ^ 8) / 2 ^ 16 < 2 ^ 64 ∧ (v + v / 2 ^ 8 + (v + v / 2 ^ 8) / 2 ^ 16 + (v + v / 2 ^ 8 + (v + v / 2 ^ 8) / 2 ^ 16) / 2 ^ 32) % 2 ^ 7 = p0 + p1 + p2 + p3 + p4 + p5 + p6 + p7 := by
  have a : v / 2 ^ 8 = ((((((p7 * 256 + p6) * 256 + p5) * 256 + p4) * 256 + p3) * 256 + p2) * 256 + p1) := by omega
  have b : v + v / 2 ^ 8 = ((((((p7 * 256 + (p6 + p7)) * 256 + (p5 + p6)) * 256 + (p4 + p5)) * 256 + (p3 + p4)) * 256 + (p2 + p3)) * 256 + (p1 + p2)) * 256 + (p0 + p1) := by omega
  clear hv a
  generalize v + v / 2 ^ 8 = w at b
  have c : w / 2 ^ 16 = ((((p7 * 256 + (p6 + p7)) * 256 + (p5 + p6)) * 256 + (p4 + p5)) * 256 + (p3 + p4)) * 256 + (p2 + p3) := by omega
  have d : w + w / 2 ^ 16 = (((((((p7) * 256 + (p6 + p7)) * 256 + (p5 + p6 + p7)) * 256 + (p4 + p5 + p6 + p7)) * 256 + (p3 + p4 + p5 + p6)) * 256 + (p2 + p3 + p4 + p5)) * 256 + (p1 + p2 + p3 + p4)) * 256 + (p0 + p1 + p2 + p3) := by omega
  have hw : w < 2 ^ 64 := by omega
  clear b c
  generalize w + w / 2 ^ 16 = y at d
  have e : y / 2 ^ 32 = (((p7) * 256 + (p6 + p7)) * 256 + (p5 + p6 + p7)) * 256 + (p4 + p5 + p6 + p7) := by omega
  refine ⟨hw, by omega, ?_⟩
  rw [e, d]
  omega
theorem count_c {x : Nat} (h : x < 2 ^ 60) : F_J13_bitCount_95d88 (lN x) = nI (pcn 60 x) := by
  have h64 : x < 2 ^ 64 := by omega
  obtain ⟨p0, p1, p2, p3, p4, p5, p6, p7, ⟨l0, l1, l2, l3, l4, l5, l6, l7⟩, e1, e2⟩ := S_all h64
  have m55 : Mb 85 8 = 6148914691236517205 := by decide
  have m33 : Mb 51 8 = 3689348814741910323 := by decide
  have m0f : Mb 15 8 = 1085102592571150095 := by decide
  have k1 : (lN x) - (((lN x).toUInt64 >>> ((1 : Int32).toInt64.toUInt64 &&& Int64.toUInt64 63)).toInt64 &&& (6148914691236517205 : Int64)) = lN (S1 8 x) := by
    have a : (x / 2 ^ 1 &&& 6148914691236517205) ≤ x / 2 ^ 1 := Nat.and_le_left
    rw [show ((lN x).toUInt64 >>> ((1 : Int32).toInt64.toUInt64 &&& Int64.toUInt64 63)).toInt64 = lN (x / 2 ^ 1) from wb_shr (k := 1) h64 (by decide), show (6148914691236517205 : Int64) = lN 6148914691236517205 from rfl, wb_and (by omega) (by decide), lN_sub (by omega)]
    unfold S1
    rw [m55]
  have b1 : S1 8 x < 2 ^ 64 := by unfold S1; omega
  have k2 : ∀ y, y < 2 ^ 64 → (lN y &&& (3689348814741910323 : Int64)) + (((lN y).toUInt64 >>> ((2 : Int32).toInt64.toUInt64 &&& Int64.toUInt64 63)).toInt64 &&& (3689348814741910323 : Int64)) = lN (S2 8 y) := by
    intro y hy
    rw [show ((lN y).toUInt64 >>> ((2 : Int32).toInt64.toUInt64 &&& Int64.toUInt64 63)).toInt64 = lN (y / 2 ^ 2) from wb_shr (k := 2) hy (by decide), show (3689348814741910323 : Int64) = lN 3689348814741910323 from rfl, wb_and hy (by decide), wb_and (by omega) (by decide), lN_add]
    unfold S2
    rw [m33]
  have b2 : S2 8 (S1 8 x) ≤ 7378697629483820646 := by
    unfold S2
    rw [m33]
    have a : (S1 8 x &&& 3689348814741910323) ≤ 3689348814741910323 := Nat.and_le_right
    have b : (S1 8 x / 4 &&& 3689348814741910323) ≤ 3689348814741910323 := Nat.and_le_right
    omega
  have k3 : ∀ z, z ≤ 7378697629483820646 → (lN z + ((lN z).toUInt64 >>> ((4 : Int32).toInt64.toUInt64 &&& Int64.toUInt64 63)).toInt64) &&& (1085102592571150095 : Int64) = lN (S3 8 z) := by
    intro z hz
    rw [show ((lN z).toUInt64 >>> ((4 : Int32).toInt64.toUInt64 &&& Int64.toUInt64 63)).toInt64 = lN (z / 2 ^ 4) from wb_shr (k := 4) (by omega) (by decide), lN_add, show (1085102592571150095 : Int64) = lN 1085102592571150095 from rfl, wb_and (by omega) (by decide)]
    unfold S3
    rw [m0f]
  have ks : ∀ (v k : Nat) (K : Int32), K = nI k → k < 64 → v < 2 ^ 64 → lN v + ((lN v).toUInt64 >>> (K.toInt64.toUInt64 &&& Int64.toUInt64 63)).toInt64 = lN (v + v / 2 ^ k) := by
    intro v k K hK hk hv
    rw [hK, wb_shr hv hk, lN_add]
  unfold F_J13_bitCount_95d88
  rw [k1]
  unfold F_J13_bitCount_95d88_10
  rw [k2 _ b1]
  unfold F_J13_bitCount_95d88_24
  rw [k3 _ b2, e1]
  unfold F_J13_bitCount_95d88_34 F_J13_bitCount_95d88_41 F_J13_bitCount_95d88_48 F_J13_bitCount_95d88_55
  generalize ev : (((((((p7 * 256 + p6) * 256 + p5) * 256 + p4) * 256 + p3) * 256 + p2) * 256 + p1) * 256 + p0) = v
  obtain ⟨f1, f2, f3⟩ := fin8 l0 l1 l2 l3 l4 l5 l6 l7 ev.symm
  rw [ks _ 8 (8 : Int32) rfl (by decide) (by omega), ks _ 16 (16 : Int32) rfl (by decide) f1, ks _ 32 (32 : Int32) rfl (by decide) f2, lN_i, nI_and _ 7 (by decide) (by decide), ← pcn_top h, e2, f3]
theorem count_loop {k : Int32} {xr : Nat → Int64} {x : Nat} (h : x < 2 ^ 60) (hx : xr k.toNatClampNeg = lN x) : ∀ (fuel t : Nat), t ≤ 60 → 60 < t + fuel → F_X9_reckoned_151 k xr fuel (lN (pcn t x)) (nI t) = lN (pcn 60 x) := by
  intro fuel
  induction fuel with
  | zero => intro t h1 h2; omega
  | succ f ih =>
    intro t h1 h2
    rw [F_X9_reckoned_151]
    by_cases e : t = 60
    · subst e
      rw [if_pos (show (60 : Int32) ≤ nI 60 from by decide)]
    · rw [if_neg (show ¬ (60 : Int32) ≤ nI t from nI_ge (b := 60) (by omega) (by omega)), hx, pf_shr (sh_D (by omega)) (by omega), wb_a1 (by have := Nat.div_le_self x (2 ^ t); omega), lN_add, nI_1]
      exact ih (t + 1) (by omega) (by omega)
