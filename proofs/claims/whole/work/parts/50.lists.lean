/-- a set and a register more; B0 is left out -/
def Pa (P : Nat → Prop) (q : Nat) : Nat → Prop := fun n => P n ∨ (q ≠ 16 ∧ n = q)
def Pz : Nat → Prop := fun _ => False
/-- the class's list of at most m registers stands for the set P -/
def LR (P : Nat → Prop) (m : Nat) (l : Int32 × (Nat → Int32)) : Prop := ∃ (c : Nat) (g : Nat → Nat), c ≤ m ∧ l.1 = nI c ∧ (∀ t, t < c → l.2 t = nI (g t) ∧ g t < 24) ∧ ∀ n, P n ↔ ∃ t, t < c ∧ g t = n
theorem LR.nil (f : Nat → Int32) : LR Pz 0 ((0 : Int32), f) := ⟨0, fun _ => 0, Nat.le_refl _, rfl, fun t h => by omega, fun n => ⟨fun h => h.elim, fun ⟨t, h, _⟩ => by omega⟩⟩
theorem LR.add {P : Nat → Prop} {m : Nat} {l : Int32 × (Nat → Int32)} (h : LR P m l) (hm : m < 3) {q : Nat} (hq : q < 24) : LR (Pa P q) (m + 1) (F_X5_add (nI q) l.1 l.2) := by
  obtain ⟨c, g, h1, h2, h3, h4⟩ := h
  unfold F_X5_add
  by_cases e : q = 16
  · subst e
    rw [if_pos (show nI 16 = (16 : Int32) from rfl)]
    refine ⟨c, g, by omega, h2, h3, fun n => ?_⟩
    rw [← h4 n]
    unfold Pa
    simp
  · rw [if_neg (fun x : nI q = (16 : Int32) => e (nI_inj (b := 16) (by omega) (by omega) x)), h2, if_neg (show ¬ (3 : Int32) ≤ nI c from nI_ge (b := 3) (by omega) (by omega)), nI_1]
    refine ⟨c + 1, fun t => if t = c then q else g t, by omega, rfl, fun t ht => ?_, fun n => ?_⟩
    · rw [nI_clamp (by omega)]
      by_cases et : t = c
      · simp [upd, et, hq]
      · simp [upd, et]
        exact h3 t (by omega)
    · unfold Pa
      rw [h4 n]
      constructor
      · rintro (⟨t, ht, e1⟩ | ⟨_, e1⟩)
        · exact ⟨t, by omega, (if_neg (by omega)).trans e1⟩
        · exact ⟨c, by omega, (if_pos rfl).trans e1.symm⟩
      · rintro ⟨t, ht, e1⟩
        by_cases et : t = c
        · exact Or.inr ⟨e, (((if_pos et).symm.trans e1)).symm⟩
        · exact Or.inl ⟨t, by omega, (if_neg et).symm.trans e1⟩
theorem LR.up {P : Nat → Prop} {m m' : Nat} {l : Int32 × (Nat → Int32)} (h : LR P m l) (hm : m ≤ m') : LR P m' l := by
  obtain ⟨c, g, h1, h2⟩ := h
  exact ⟨c, g, by omega, h2⟩
theorem LR.to {P Q : Nat → Prop} {m : Nat} {l : Int32 × (Nat → Int32)} (h : LR P m l) (e : ∀ n, P n ↔ Q n) : LR Q m l := by
  obtain ⟨c, g, h1, h2, h3, h4⟩ := h
  exact ⟨c, g, h1, h2, h3, fun n => (e n).symm.trans (h4 n)⟩
/-- the reference's mask stands for the set P -/
def MR (P : Nat → Prop) (x : Int32) : Prop := ∃ M : Nat, M < 2 ^ 24 ∧ x = nI M ∧ ∀ n, n < 24 → (M.testBit n = true ↔ P n)
theorem MR.nil : MR Pz (0 : Int32) := ⟨0, by decide, rfl, fun n _ => by simp [Pz]⟩
theorem mr_shl : ∀ q, q < 24 → (1 : Int32) <<< (nI q &&& 31) = nI (2 ^ q) := by decide +kernel
theorem nI_or {a b : Nat} (ha : a < 2 ^ 31) (hb : b < 2 ^ 31) : nI a ||| nI b = nI (a ||| b) := by
  apply Int32.toBitVec_inj.mp
  rw [Int32.toBitVec_or]
  show BitVec.ofNat 32 _ ||| BitVec.ofNat 32 _ = BitVec.ofNat 32 _
  apply BitVec.eq_of_toNat_eq
  have ho : a ||| b < 2 ^ 32 := Nat.or_lt_two_pow (by omega) (by omega)
  rw [BitVec.toNat_or, BitVec.toNat_ofNat, BitVec.toNat_ofNat, BitVec.toNat_ofNat, Nat.mod_eq_of_lt (by omega), Nat.mod_eq_of_lt (by omega), Nat.mod_eq_of_lt ho]
theorem MR.add {P : Nat → Prop} {x : Int32} (h : MR P x) {q : Nat} (hq : q < 24) : MR (Pa P q) (F_X9_need (nI q) x) := by
  obtain ⟨M, h1, rfl, h3⟩ := h
  unfold F_X9_need F_X9_need_22
  by_cases e : q = 16
  · subst e
    rw [if_pos (show nI 16 = (16 : Int32) from rfl)]
    refine ⟨M, h1, rfl, fun n hn => ?_⟩
    rw [h3 n hn]
    unfold Pa
    simp
  · have hp : 2 ^ q < 2 ^ 24 := Nat.pow_lt_pow_right (by decide) hq
    rw [if_neg (fun y : nI q = (16 : Int32) => e (nI_inj (b := 16) (by omega) (by omega) y)), mr_shl q hq, nI_or (by omega) (by omega)]
    refine ⟨_, Nat.or_lt_two_pow h1 hp, rfl, fun n hn => ?_⟩
    rw [Nat.testBit_or, Nat.testBit_two_pow, Bool.or_eq_true, h3 n hn]
    unfold Pa
    simp [e]
    exact or_congr Iff.rfl eq_comm
theorem give_need (n x : Int32) : F_X9_give n x = F_X9_need n x := rfl
theorem MR.to {P Q : Nat → Prop} {x : Int32} (h : MR P x) (e : ∀ n, P n ↔ Q n) : MR Q x := by
  obtain ⟨M, h1, h2, h3⟩ := h
  exact ⟨M, h1, h2, fun n hn => (h3 n hn).trans (e n)⟩
theorem and31 : ∀ n, n < 24 → (((nI n &&& 31) : Int32).toBitVec.smod 32).toNat = n := by decide +kernel
theorem MR.bit {P : Nat → Prop} {x : Int32} (h : MR P x) {n : Nat} (hn : n < 24) : (((x >>> (nI n &&& 31)) &&& (1 : Int32)) = (1 : Int32)) ↔ P n := by
  obtain ⟨M, h1, rfl, h3⟩ := h
  rw [← h3 n hn, nI_shr _ n (and31 n hn) (by omega), nI_and _ 1 (by decide) (by decide), Nat.testBit_eq_decide_div_mod_eq]
  have := Nat.mod_lt (M / 2 ^ n) (show 0 < 2 by decide)
  rw [show (1 : Int32) = nI 1 from rfl, nI_eq (by omega) (by omega)]
  simp
/-- m is the greatest of b and the T n with n in P -/
def IsMax (P : Nat → Prop) (T : Nat → Nat) (b m : Nat) : Prop := b ≤ m ∧ (∀ n, n < 24 → P n → T n ≤ m) ∧ (m = b ∨ ∃ n, n < 24 ∧ P n ∧ T n = m)
theorem IsMax.uniq {P : Nat → Prop} {T : Nat → Nat} {b m m' : Nat} (h : IsMax P T b m) (h' : IsMax P T b m') : m = m' := by
  obtain ⟨h1, h2, h3⟩ := h
  obtain ⟨k1, k2, k3⟩ := h'
  have a : m ≤ m' := by
    rcases h3 with e | ⟨n, hn, hp, e⟩
    · omega
    · have := k2 n hn hp; omega
  have b : m' ≤ m := by
    rcases k3 with e | ⟨n, hn, hp, e⟩
    · omega
    · have := h2 n hn hp; omega
  omega
theorem IsMax.to {P Q : Nat → Prop} {T : Nat → Nat} {b m : Nat} (h : IsMax P T b m) (e : ∀ n, n < 24 → (P n ↔ Q n)) : IsMax Q T b m := by
  obtain ⟨h1, h2, h3⟩ := h
  refine ⟨h1, fun n hn hq => h2 n hn ((e n hn).mpr hq), ?_⟩
  rcases h3 with h | ⟨n, hn, hp, h⟩
  · exact Or.inl h
  · exact Or.inr ⟨n, hn, (e n hn).mp hp, h⟩
theorem IsMax.nil (T : Nat → Nat) (b : Nat) : IsMax (fun _ => False) T b b := ⟨Nat.le_refl _, fun _ _ h => h.elim, Or.inl rfl⟩
theorem IsMax.add {P : Nat → Prop} {T : Nat → Nat} {b m : Nat} (h : IsMax P T b m) {q : Nat} (hq : q < 24) : IsMax (fun n => P n ∨ n = q) T b (max m (T q)) := by
  obtain ⟨h1, h2, h3⟩ := h
  refine ⟨by omega, ?_, ?_⟩
  · rintro n hn (hp | rfl)
    · have := h2 n hn hp; omega
    · omega
  · by_cases c : T q ≤ m
    · rw [show max m (T q) = m by omega]
      rcases h3 with h | ⟨n, hn, hp, h⟩
      · exact Or.inl h
      · exact Or.inr ⟨n, hn, Or.inl hp, h⟩
    · rw [show max m (T q) = T q by omega]
      exact Or.inr ⟨q, hq, Or.inr rfl, rfl⟩
theorem imax {a b : Nat} (ha : a < 2 ^ 31) (hb : b < 2 ^ 31) : (if nI a < nI b then nI b else nI a) = nI (max a b) := by
  by_cases c : nI a < nI b
  · rw [if_pos c]; rw [nI_ltI ha hb] at c; rw [show max a b = b by omega]
  · rw [if_neg c]; rw [nI_ltI ha hb] at c; rw [show max a b = a by omega]
theorem lmax {a b : Nat} (ha : a < 2 ^ 63) (hb : b < 2 ^ 63) : F_X9_later (lN a) (lN b) = lN (max a b) := by
  unfold F_X9_later
  by_cases c : lN a ≤ lN b
  · rw [if_pos c]; rw [pk_lLE ha hb] at c; rw [show max a b = b by omega]
  · rw [if_neg c]; rw [pk_lLE ha hb] at c; rw [show max a b = a by omega]
theorem latest_loop {S : Int32} {f qf : Nat → Int32} {T : Nat → Nat} {c : Nat} {g : Nat → Nat} (hc : c ≤ 3) (hS : S = nI c) (hf : ∀ t, t < c → f t = nI (g t) ∧ g t < 24) (hT : ∀ n, n < 24 → qf n = nI (T n) ∧ T n < 2 ^ 31) : ∀ (fuel t m : Nat), t ≤ c → c < t + fuel → m < 2 ^ 31 → IsMax (fun n => ∃ s, s < t ∧ g s = n) T 0 m → ∃ m', F_X5_latestIn_4 S f qf fuel (nI m) (nI t) = nI m' ∧ IsMax (fun n => ∃ s, s < c ∧ g s = n) T 0 m' := by
  intro fuel
  induction fuel with
  | zero => intro t m h1 h2; omega
  | succ k ih =>
    intro t m h1 h2 hm hM
    rw [F_X5_latestIn_4, hS]
    by_cases e : t = c
    · rw [if_pos (nI_le (by omega) (by omega))]
      subst e
      exact ⟨m, rfl, hM⟩
    · obtain ⟨h3, h4⟩ := hf t (by omega)
      obtain ⟨h5, h6⟩ := hT (g t) h4
      rw [if_neg (nI_ge (by omega) (by omega)), nI_clamp (by omega), h3, nI_clamp (by omega), h5, imax hm h6, nI_1]
      rw [hS] at ih
      refine ih (t + 1) _ (by omega) (by omega) (by omega) ((hM.add h4).to fun n hn => ?_)
      constructor
      · rintro (⟨s, hs, e1⟩ | rfl)
        · exact ⟨s, by omega, e1⟩
        · exact ⟨t, by omega, rfl⟩
      · rintro ⟨s, hs, e1⟩
        rcases Nat.lt_or_ge s t with q | q
        · exact Or.inl ⟨s, q, e1⟩
        · rw [show s = t by omega] at e1
          exact Or.inr e1.symm
theorem latest_max {P : Nat → Prop} {l : Int32 × (Nat → Int32)} {qf : Nat → Int32} {T : Nat → Nat} (h : LR P 3 l) (hT : ∀ n, n < 24 → qf n = nI (T n) ∧ T n < 2 ^ 31) : ∃ m, F_X5_latestIn l.1 l.2 qf = nI m ∧ IsMax P T 0 m := by
  obtain ⟨c, g, h1, h2, h3, h4⟩ := h
  obtain ⟨m, e, hm⟩ := latest_loop h1 h2 h3 hT 4 0 0 (Nat.zero_le _) (by omega) (by decide) ((IsMax.nil T 0).to fun n _ => ⟨fun h => h.elim, fun ⟨s, hs, _⟩ => by omega⟩)
  exact ⟨m, e, hm.to fun n _ => (h4 n).symm⟩
theorem free_loop {P : Nat → Prop} {x : Int32} {xf : Nat → Int64} {T : Nat → Nat} (h : MR P x) (hT : ∀ n, n < 24 → xf n = lN (T n) ∧ T n < 2 ^ 31) : ∀ (fuel t m : Nat), t ≤ 24 → 24 < t + fuel → m < 2 ^ 31 → IsMax (fun n => n < t ∧ P n) T 0 m → ∃ m', F_X9_freeFrom_5 xf fuel x (lN m) (nI t) = lN m' ∧ IsMax P T 0 m' := by
  intro fuel
  induction fuel with
  | zero => intro t m h1 h2; omega
  | succ k ih =>
    intro t m h1 h2 hm hM
    rw [F_X9_freeFrom_5]
    by_cases e : t = 24
    · rw [if_pos (show (24 : Int32) ≤ nI t from nI_le (a := 24) (by omega) (by omega))]
      subst e
      exact ⟨m, rfl, hM.to fun n hn => ⟨fun q => q.2, fun q => ⟨hn, q⟩⟩⟩
    · obtain ⟨h5, h6⟩ := hT t (by omega)
      rw [if_neg (show ¬ (24 : Int32) ≤ nI t from nI_ge (b := 24) (by omega) (by omega)), nI_1]
      by_cases c : P t
      · rw [if_pos ((h.bit (by omega)).mpr c), nI_clamp (by omega), h5, lmax (by omega) (by omega)]
        refine ih (t + 1) _ (by omega) (by omega) (by omega) ((hM.add (q := t) (by omega)).to fun n hn => ?_)
        constructor
        · rintro (⟨a, b⟩ | rfl)
          · exact ⟨by omega, b⟩
          · exact ⟨by omega, c⟩
        · rintro ⟨a, b⟩
          rcases Nat.lt_or_ge n t with q | q
          · exact Or.inl ⟨q, b⟩
          · exact Or.inr (by omega)
      · rw [if_neg (fun q => c ((h.bit (by omega)).mp q))]
        refine ih (t + 1) _ (by omega) (by omega) (by omega) (hM.to fun n hn => ?_)
        constructor
        · rintro ⟨a, b⟩
          exact ⟨by omega, b⟩
        · rintro ⟨a, b⟩
          rcases Nat.lt_or_ge n t with q | q
          · exact ⟨q, b⟩
          · rw [show n = t by omega] at b
            exact absurd b c
theorem free_max {P : Nat → Prop} {x : Int32} {xf : Nat → Int64} {T : Nat → Nat} (h : MR P x) (hT : ∀ n, n < 24 → xf n = lN (T n) ∧ T n < 2 ^ 31) : ∃ m, F_X9_freeFrom x xf = lN m ∧ IsMax P T 0 m :=
  free_loop h hT 25 0 0 (by omega) (by omega) (by decide) ((IsMax.nil T 0).to fun n _ => ⟨fun h => h.elim, fun q => by omega⟩)
theorem raise_loop {S : Int32} {f : Nat → Int32} {T : Nat → Nat} {c v : Nat} {g : Nat → Nat} (hc : c ≤ 3) (hS : S = nI c) (hf : ∀ t, t < c → f t = nI (g t) ∧ g t < 24) (hv : v < 2 ^ 31) : ∀ (fuel t : Nat) (qf : Nat → Int32), t ≤ c → c < t + fuel → (∀ n, n < 24 → (¬ (∃ s, s < t ∧ g s = n) → qf n = nI (T n)) ∧ ((∃ s, s < t ∧ g s = n) → qf n = nI (max (T n) v)) ∧ T n < 2 ^ 31) → ∀ n, n < 24 → (¬ (∃ s, s < c ∧ g s = n) → F_X5_raiseIn_2 S f fuel (nI v) (nI t) qf n = nI (T n)) ∧ ((∃ s, s < c ∧ g s = n) → F_X5_raiseIn_2 S f fuel (nI v) (nI t) qf n = nI (max (T n) v)) := by
  intro fuel
  induction fuel with
  | zero => intro t qf h1 h2; omega
  | succ k ih =>
    intro t qf h1 h2 hq
    rw [F_X5_raiseIn_2, hS]
    by_cases e : t = c
    · rw [if_pos (nI_le (by omega) (by omega))]
      subst e
      exact fun n hn => ⟨(hq n hn).1, (hq n hn).2.1⟩
    · have htc : t < c := by omega
      have hc31 : c < 2 ^ 31 := by omega
      have ht31 : t < 2 ^ 31 := by omega
      have htc1 : t + 1 ≤ c := htc
      have hck : c < t + 1 + k := by omega
      obtain ⟨h3, h4⟩ := hf t htc
      have hg31 : g t < 2 ^ 31 := by omega
      obtain ⟨k1, k2, k3⟩ := hq (g t) h4
      have hm31 : max (T (g t)) v < 2 ^ 31 := Nat.max_lt.mpr ⟨k3, hv⟩
      have hval : ∃ a, a < 2 ^ 31 ∧ qf (g t) = nI a ∧ max a v = max (T (g t)) v := by
        by_cases ex : ∃ s, s < t ∧ g s = g t
        · exact ⟨_, hm31, k2 ex, by rw [Nat.max_assoc, Nat.max_self]⟩
        · exact ⟨_, k3, k1 ex, rfl⟩
      obtain ⟨a, ha, ea, em⟩ := hval
      rw [if_neg (nI_ge htc hc31), nI_clamp ht31, h3, nI_clamp hg31, ea, imax ha hv, nI_1, em]
      rw [hS] at ih
      refine ih (t + 1) _ htc1 hck (fun n hn => ?_)
      obtain ⟨q1, q2, q3⟩ := hq n hn
      by_cases en : n = g t
      · subst en
        refine ⟨fun no => absurd ⟨t, Nat.lt_succ_self t, rfl⟩ no, fun _ => by simp [upd], q3⟩
      · refine ⟨fun no => ?_, fun ⟨s, hs, es⟩ => ?_, q3⟩
        · simp only [upd, if_neg en]
          exact q1 fun ⟨s, hs, es⟩ => no ⟨s, Nat.lt_succ_of_lt hs, es⟩
        · simp only [upd, if_neg en]
          refine q2 ⟨s, ?_, es⟩
          rcases Nat.lt_or_ge s t with q | q
          · exact q
          · rw [show s = t from Nat.le_antisymm (Nat.le_of_lt_succ hs) q] at es
            exact absurd es.symm en
theorem raise_max {P : Nat → Prop} {l : Int32 × (Nat → Int32)} {qf : Nat → Int32} {T : Nat → Nat} {v : Nat} (h : LR P 3 l) (hv : v < 2 ^ 31) (hT : ∀ n, n < 24 → qf n = nI (T n) ∧ T n < 2 ^ 31) : ∀ n, n < 24 → (¬ P n → F_X5_raiseIn (nI v) l.1 l.2 qf n = nI (T n)) ∧ (P n → F_X5_raiseIn (nI v) l.1 l.2 qf n = nI (max (T n) v)) := by
  obtain ⟨c, g, h1, h2, h3, h4⟩ := h
  have := raise_loop (T := T) h1 h2 h3 hv 4 0 qf (Nat.zero_le _) (by omega) (fun n hn => ⟨fun _ => (hT n hn).1, fun ⟨s, hs, _⟩ => by omega, (hT n hn).2⟩)
  intro n hn
  obtain ⟨a, b⟩ := this n hn
  exact ⟨fun q => a fun x => q ((h4 n).mpr x), fun q => b ((h4 n).mp q)⟩
