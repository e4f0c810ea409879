-- words for ranges
def R8 (x : Int32) : Prop := ∃ n : Nat, n < 8 ∧ x = nI n
theorem R8.x {x : Int32} (h : R8 x) : vp_in x 24 := by
  obtain ⟨n, h1, rfl⟩ := h
  exact vp_in_nI (by omega) (by decide)
theorem R8.a {x : Int32} (h : R8 x) : vp_in ((8 : Int32) + x) 24 := by
  obtain ⟨n, h1, rfl⟩ := h
  rw [show (8 : Int32) = nI 8 from rfl, nI_add]
  exact vp_in_nI (by omega) (by decide)
theorem R8.b {x : Int32} (h : R8 x) : vp_in ((16 : Int32) + x) 24 := by
  obtain ⟨n, h1, rfl⟩ := h
  rw [show (16 : Int32) = nI 16 from rfl, nI_add]
  exact vp_in_nI (by omega) (by decide)
/-- a counted loop: i goes up to N, there is fuel for it -/
def Lp (N i : Int32) (fuel : Nat) : Prop := ∃ t S : Nat, N = nI S ∧ i = nI t ∧ t ≤ S ∧ S < t + fuel ∧ S < 2 ^ 31
theorem Lp.zero {N i : Int32} : ¬ Lp N i 0 := fun ⟨t, S, _, _, h1, h2, _⟩ => by omega
theorem Lp.lt {N i : Int32} {f : Nat} (h : Lp N i f) (c : ¬ N ≤ i) : ∃ t S : Nat, N = nI S ∧ i = nI t ∧ t < S ∧ S < t + f ∧ S < 2 ^ 31 := by
  obtain ⟨t, S, rfl, rfl, h1, h2, h3⟩ := h
  refine ⟨t, S, rfl, rfl, ?_, h2, h3⟩
  rcases Nat.lt_or_ge t S with q | q
  · exact q
  · exact absurd (nI_le q (by omega)) c
theorem Lp.step {N i : Int32} {f : Nat} (h : Lp N i (f + 1)) (c : ¬ N ≤ i) : Lp N (i + (1 : Int32)) f := by
  obtain ⟨t, S, h1, rfl, h3, h4, h5⟩ := h.lt c
  exact ⟨t + 1, S, h1, nI_1 t, h3, by omega, h5⟩
theorem Lp.start {N : Int32} {f : Nat} (S : Nat) (h : N = nI S) (h1 : S < f) (h2 : S < 2 ^ 31) : Lp N (0 : Int32) f := ⟨0, S, h, rfl, Nat.zero_le _, by omega, h2⟩
theorem Lp.in {N i : Int32} {f k : Nat} (h : Lp N i f) (c : ¬ N ≤ i) (hk : ∀ S : Nat, S < 2 ^ 31 → N = nI S → S ≤ k) (h31 : k < 2 ^ 31) : vp_in i k := by
  obtain ⟨t, S, h1, rfl, h3, h4, h5⟩ := h.lt c
  exact vp_in_nI (Nat.lt_of_lt_of_le h3 (hk S h5 h1)) h31
theorem nI_inj {a b : Nat} (ha : a < 2 ^ 31) (hb : b < 2 ^ 31) (h : nI a = nI b) : a = b := (nI_eq ha hb).mp h
/-- a list of at most three registers -/
def LOk (S : Int32) (f : Nat → Int32) : Prop := (∃ n : Nat, n ≤ 3 ∧ S = nI n) ∧ ∀ j, j < 3 → vp_in (f j) 24
theorem LOk.size {S : Int32} {f : Nat → Int32} (h : LOk S f) (c : ¬ (3 : Int32) ≤ S) : vp_in S 3 := by
  obtain ⟨n, h1, h2⟩ := h.1
  subst h2
  refine vp_in_nI ?_ (by decide)
  rcases Nat.lt_or_ge n 3 with q | q
  · exact q
  · exact absurd (show nI 3 ≤ nI n from nI_le q (by omega)) c
theorem LOk.lp {S : Int32} {f : Nat → Int32} (h : LOk S f) : Lp S (0 : Int32) 4 := by
  obtain ⟨n, h1, h2⟩ := h.1
  exact Lp.start n h2 (by omega) (by omega)
theorem LOk.inl {S i : Int32} {f : Nat → Int32} {q : Nat} (h : LOk S f) (g : Lp S i q) (c : ¬ S ≤ i) : vp_in i 3 := by
  obtain ⟨n, h1, h2⟩ := h.1
  refine g.in c (fun S' hS e => ?_) (by decide)
  have := nI_inj (by omega) hS (h2.symm.trans e)
  omega
theorem LOk.num {S i : Int32} {f : Nat → Int32} {q : Nat} (h : LOk S f) (g : Lp S i q) (c : ¬ S ≤ i) : vp_in (f i.toNatClampNeg) 24 := by
  have hi := h.inl g c
  refine h.2 _ ?_
  exact Nat.not_le.mp fun z => hi (Or.inr z)
