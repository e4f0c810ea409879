theorem r8I {n : Nat} (h : n < 8) : R8 (nI n) := ⟨n, h, rfl⟩
theorem s18 {a b : Int64} (ha : Nb O18 a) (hb : Nb O18 b) : F_X4_sum a b (262143 : Int64) = F_X9_sum a b (262143 : Int64) := sum_eq (k := 18) (by omega) ha hb
theorem d18 {a b : Int64} (ha : Nb O18 a) (hb : Nb O18 b) : F_X4_difference a b (262143 : Int64) = F_X9_less a b (262143 : Int64) := diff_eq (k := 18) (by omega) ha hb
theorem f_c : ∀ o, o < 64 → nI o &&& (7 : Int32) = nI (o % 8) := by decide +kernel
theorem f_m : ∀ o, o < 64 → nI o - nI o / (8 : Int32) * (8 : Int32) = nI (o % 8) := by decide +kernel
theorem short_eq {o j k c n : Nat} {gv : Nat → Int64} (ho : o < 64) (hn : o % 8 < 3 → n = c) (hc : c ≤ O18) (hj : j < 8) (hk : k < 8) (hX : XRg gv) : F_X7_shortSum (nI o) (nI j) (nI k) (nI c) gv = F_X9_placed (nI o) (nI j) (nI k) (nI n) gv := by
  have ha : Nb O18 (gv ((8 : Int32) + nI j).toNatClampNeg) := by rw [cl8 hj]; exact hX.s (by omega) (by omega)
  have hb : Nb O18 (gv ((16 : Int32) + nI j).toNatClampNeg) := by rw [cl16 hj]; exact hX.s (by omega) (by omega)
  have hk' : Nb O18 (gv ((16 : Int32) + nI k).toNatClampNeg) := by rw [cl16 hk]; exact hX.s (by omega) (by omega)
  have hx : Nb O18 (gv (nI j).toNatClampNeg &&& (262143 : Int64)) := nb_and18 _
  have hc' : Nb O18 ((nI c).toInt64) := ⟨c, hc, nI_l (by unfold O18 at hc; omega)⟩
  unfold F_X7_shortSum F_X9_placed F_X1_op F_X1_j F_X1_k F_X1_constant F_X6_a F_X6_b F_X6_x
  rw [f_c o ho, f_m o ho]
  have h8 : o % 8 < 8 := Nat.mod_lt _ (by decide)
  generalize o % 8 = f at hn h8
  rcases (show f = 0 ∨ f = 1 ∨ f = 2 ∨ f = 3 ∨ f = 4 ∨ f = 5 ∨ f = 6 ∨ f = 7 by omega) with rfl | rfl | rfl | rfl | rfl | rfl | rfl | rfl
  · rw [hn (by omega)]
    simp (decide := true) only [if_true, if_false]
    exact s18 ha hc'
  · rw [hn (by omega)]
    simp (decide := true) only [if_true, if_false]
    exact s18 hb hc'
  · rw [hn (by omega)]
    simp (decide := true) only [if_true, if_false]
    exact s18 hx hc'
  · simp (decide := true) only [if_true, if_false]
    exact s18 hx hk'
  · simp (decide := true) only [if_true, if_false]
    exact s18 ha hk'
  · simp (decide := true) only [if_true, if_false]
    exact d18 ha hk'
  · simp (decide := true) only [if_true, if_false]
    exact s18 hb hk'
  · simp (decide := true) only [if_true, if_false]
    exact d18 hb hk'
theorem g_c : ∀ o, o < 64 → nI o >>> ((3 : Int32) &&& 31) = nI (o / 8) := by decide +kernel
theorem u_hi : ∀ o, o < 64 → 40 ≤ o → F_X1_unitOf (nI o) = 4 := by decide +kernel
theorem mask_id {v : Int64} (h : Nb O60 v) : v &&& (1152921504606846975 : Int64) = v := by
  obtain ⟨x, hx, rfl⟩ := h
  have e := wb_mask (n := x) (k := 60) (by unfold O60 at hx; omega) (by decide)
  rw [show (1152921504606846975 : Int64) = lN (2 ^ 60 - 1) from rfl, e, Nat.mod_eq_of_lt (by unfold O60 at hx; omega)]
theorem act_hi {o i j k c n : Nat} {gv mw : Nat → Int64} (h40 : 40 ≤ o) (ho : o < 64) (hn : o % 8 < 3 → n = c) (hc : c ≤ O18) (hn' : n ≤ O18) (hi : i < 8) (hj : j < 8) (hk : k < 8) (hX : XRg gv) : F_X7_apply (nI o) (nI i) (nI j) (nI k) (nI c) (F_X1_unitOf (nI o)) gv mw = ((F_X9_act (nI o) (nI i) (nI j) (nI k) (nI n) mw gv).2, (F_X9_act (nI o) (nI i) (nI j) (nI k) (nI n) mw gv).1) := by
  have hs := short_eq (gv := gv) ho hn hc hj hk hX
  obtain ⟨t, ht, et⟩ := nb_placed (xo := nI o) (xj := nI j) (xk := nI k) (xn := nI n) hX (r8I hj) (r8I hk) ⟨n, hn', rfl⟩
  have ht' : t < 2 ^ 18 := by unfold O18 at ht; omega
  have ci := clj (show i < 24 by omega)
  rw [u_hi o ho h40]
  unfold F_X7_apply F_X7_applyAddress F_X9_act F_X1_unit F_X1_op F_X1_i
  rw [hs, et, g_c o ho, if_pos (show (40 : Int32) ≤ nI o from nI_le (a := 40) h40 (by omega))]
  simp (decide := true) only [if_true, if_false, set_eq, ext_eq]
  rcases Nat.lt_or_ge o 48 with a | a
  · rw [show o / 8 = 5 by omega, if_pos (show nI 5 = (5 : Int32) from rfl), if_pos (show nI o < (56 : Int32) from nI_lt (b := 56) (by omega) (by omega)), if_pos (show nI o < (48 : Int32) from nI_lt (b := 48) a (by omega)), lN_i]
    have hl : (512 : Int64) ≤ lN t ↔ 512 ≤ t := pk_lLE (a := 512) (by omega) (by omega)
    have hld : F_X3_load (nI t) mw = if 512 ≤ t then 0 else mw t := by
      unfold F_X3_load F_X3_holds
      rw [if_neg (nI_pos (by omega)), nI_clamp (by omega)]
      by_cases d : 512 ≤ t
      · rw [if_pos (show (512 : Int32) ≤ nI t from nI_le (a := 512) d (by omega)), if_pos rfl, if_pos d]
      · rw [if_neg (show ¬ (512 : Int32) ≤ nI t from nI_ge (b := 512) (by omega) (by omega)), if_neg (by decide), if_neg d]
    have hst : ∀ v, F_X3_store (nI t) v mw = if 512 ≤ t then mw else vp_updL mw t (v &&& (1152921504606846975 : Int64)) := by
      intro v
      unfold F_X3_store F_X3_holds
      rw [if_neg (nI_pos (by omega)), nI_clamp (by omega)]
      by_cases d : 512 ≤ t
      · rw [if_pos (show (512 : Int32) ≤ nI t from nI_le (a := 512) d (by omega)), if_pos rfl, if_pos d]
      · rw [if_neg (show ¬ (512 : Int32) ≤ nI t from nI_ge (b := 512) (by omega) (by omega)), if_neg (by decide), if_neg d]
    have hci : (nI t).toNatClampNeg = t := nI_clamp (by omega)
    have hv : Nb O60 ((F_X9_set ((8 : Int32) + nI i) (lN t) gv) i) := (hX.set (by rw [e8]; exact vp_in_nI (by omega) (by decide))).w hi
    unfold F_X7_reachMemory F_X1_i F_X6_x
    rw [hld, hst, ci, hci]
    simp only [set_eq]
    rw [mask_id hv]
    rcases (show i = 0 ∨ (1 ≤ i ∧ i ≤ 5) ∨ 6 ≤ i by omega) with rfl | ⟨i1, i5⟩ | i6
    · rw [show F_X1_loads (nI o) (nI 0) = 0 from by rcases (show o = 40 ∨ o = 41 ∨ o = 42 ∨ o = 43 ∨ o = 44 ∨ o = 45 ∨ o = 46 ∨ o = 47 by omega) with rfl | rfl | rfl | rfl | rfl | rfl | rfl | rfl <;> decide, show F_X1_stores (nI o) (nI 0) = 0 from by rcases (show o = 40 ∨ o = 41 ∨ o = 42 ∨ o = 43 ∨ o = 44 ∨ o = 45 ∨ o = 46 ∨ o = 47 by omega) with rfl | rfl | rfl | rfl | rfl | rfl | rfl | rfl <;> decide]
      by_cases d : 512 ≤ t
      · rw [if_pos (hl.mpr d)]
        simp (decide := true) only [if_true, if_false]
      · rw [if_neg (fun q => d (hl.mp q))]
        simp (decide := true) only [if_true, if_false]
    · have hlo : F_X1_loads (nI o) (nI i) = 1 := by
        rcases (show o = 40 ∨ o = 41 ∨ o = 42 ∨ o = 43 ∨ o = 44 ∨ o = 45 ∨ o = 46 ∨ o = 47 by omega) with rfl | rfl | rfl | rfl | rfl | rfl | rfl | rfl <;> rcases (show i = 1 ∨ i = 2 ∨ i = 3 ∨ i = 4 ∨ i = 5 by omega) with rfl | rfl | rfl | rfl | rfl <;> decide
      have n0 : ¬ nI i ≤ 0 := nI_nle (by omega) (by omega)
      have n6 : ¬ (6 : Int32) ≤ nI i := nI_ge (b := 6) (by omega) (by omega)
      by_cases d : 512 ≤ t <;> simp (decide := true) only [hl, d, n0, n6, hlo, if_true, if_false]
    · have hlo : F_X1_loads (nI o) (nI i) = 0 ∧ F_X1_stores (nI o) (nI i) = 1 := by
        rcases (show o = 40 ∨ o = 41 ∨ o = 42 ∨ o = 43 ∨ o = 44 ∨ o = 45 ∨ o = 46 ∨ o = 47 by omega) with rfl | rfl | rfl | rfl | rfl | rfl | rfl | rfl <;> rcases (show i = 6 ∨ i = 7 by omega) with rfl | rfl <;> decide
      have n0 : ¬ nI i ≤ 0 := nI_nle (by omega) (by omega)
      have n6 : (6 : Int32) ≤ nI i := nI_le (a := 6) (by omega) (by omega)
      have n5 : ¬ nI i ≤ (5 : Int32) := nI_ge (a := 5) (by omega) (by omega)
      by_cases d : 512 ≤ t <;> simp (decide := true) only [hl, d, n0, n6, n5, hlo.1, hlo.2, if_true, if_false]
  · rw [if_neg (show ¬ nI (o / 8) = (5 : Int32) from fun q => by have := nI_inj (b := 5) (by omega) (by omega) q; omega)]
    rcases Nat.lt_or_ge o 56 with b | b
    · rw [show o / 8 = 6 by omega, if_pos (show nI 6 = (6 : Int32) from rfl), if_pos (show nI o < (56 : Int32) from nI_lt (b := 56) b (by omega)), if_neg (show ¬ nI o < (48 : Int32) from nI_nlt (b := 48) a (by omega))]
    · rw [show o / 8 = 7 by omega, if_neg (show ¬ nI 7 = (6 : Int32) from by decide), if_neg (show ¬ nI o < (56 : Int32) from nI_nlt (b := 56) b (by omega))]
theorem act_eq {o i j k c n : Nat} {gv mw : Nat → Int64} (ho : Vd o) (hn : Sz o = 2 → n = c) (hc : c ≤ O18) (hn' : n ≤ O18) (hi : i < 8) (hj : j < 8) (hk : k < 8) (hX : XRg gv) : F_X7_apply (nI o) (nI i) (nI j) (nI k) (nI c) (F_X1_unitOf (nI o)) gv mw = ((F_X9_act (nI o) (nI i) (nI j) (nI k) (nI n) mw gv).2, (F_X9_act (nI o) (nI i) (nI j) (nI k) (nI n) mw gv).1) := by
  rcases Nat.lt_or_ge o 40 with a | a
  · have hv : (8 ≤ o ∧ o < 20) ∨ (o = 30 ∨ o = 31 ∨ o = 35 ∨ o = 39) := by
      rcases ho with h | h | h
      · exact Or.inl h
      · exact Or.inr h
      · omega
    rw [act_lo hv hi hj hk hX]
    unfold F_X9_act
    rw [if_neg (show ¬ (40 : Int32) ≤ nI o from nI_ge (b := 40) a (by omega))]
  · exact act_hi a ho.lt (fun q => hn (by unfold Sz; rw [if_pos (Or.inr ⟨a, ho.lt, q⟩)])) hc hn' hi hj hk hX
theorem MOk.act {o i j k n : Nat} {gv mw : Nat → Int64} (h : MOk mw) (hX : XRg gv) (hi : i < 8) : MOk (F_X9_act (nI o) (nI i) (nI j) (nI k) (nI n) mw gv).1 := by
  have hv : Nb O60 ((F_X9_set ((8 : Int32) + nI i) (F_X9_placed (nI o) (nI j) (nI k) (nI n) gv) gv) (nI i).toNatClampNeg) := by
    rw [clj (by omega)]
    exact (hX.set (by rw [e8]; exact vp_in_nI (by omega) (by decide))).w hi
  unfold F_X9_act
  repeat' split
  all_goals first | exact h | exact h.upd hv
