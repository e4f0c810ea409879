theorem cmp_0 (a b : Int64) : F_J13_compare_74951 a b = 0 ↔ a = b := by
  unfold F_J13_compare_74951
  by_cases c : b ≤ a
  · rw [if_pos c]
    by_cases d : a = b
    · simp [d]
    · rw [if_neg d]
      exact ⟨fun x => absurd x (by decide), fun x => absurd x d⟩
  · rw [if_neg c]
    exact ⟨fun x => absurd x (by decide), fun x => absurd (by rw [x]; exact Int64.le_refl _) c⟩
theorem cmp_lt (a b : Int64) : F_J13_compare_74951 a b < 0 ↔ ¬ b ≤ a := by
  unfold F_J13_compare_74951
  by_cases c : b ≤ a
  · rw [if_pos c]
    by_cases d : a = b
    · rw [if_pos d]
      exact ⟨fun x => absurd x (by decide), fun x => absurd c x⟩
    · rw [if_neg d]
      exact ⟨fun x => absurd x (by decide), fun x => absurd c x⟩
  · rw [if_neg c]
    exact ⟨fun _ => c, fun _ => by decide⟩
theorem neg_iff {n : Nat} (hn : n < 2 ^ 60) : F_X4_isNegative (lN n) = (if lN n ≤ (576460752303423487 : Int64) then 0 else 1) := by
  unfold F_X4_isNegative
  rw [show lN n >>> ((59 : Int32).toInt64 &&& 63) = lN (n / 2 ^ 59) from pf_shr (d := 59) (by decide) (by omega), wb_a1 (by omega), Nat.mod_eq_of_lt (show n / 2 ^ 59 < 2 by omega)]
  have hc : lN n ≤ (576460752303423487 : Int64) ↔ n ≤ 576460752303423487 := pk_lLE (b := 576460752303423487) (by omega) (by omega)
  rcases Nat.lt_or_ge n (2 ^ 59) with c | c
  · rw [show n / 2 ^ 59 = 0 by omega, if_pos (by decide), if_pos (hc.mpr (by omega))]
  · rw [show n / 2 ^ 59 = 1 by omega, if_neg (by decide), if_neg (fun x => by have := hc.mp x; omega)]
theorem cl8 {j : Nat} (h : j < 8) : ((8 : Int32) + nI j).toNatClampNeg = 8 + j := by rw [e8]; exact nI_clamp (by omega)
theorem cl16 {j : Nat} (h : j < 8) : ((16 : Int32) + nI j).toNatClampNeg = 16 + j := by rw [e16]; exact nI_clamp (by omega)
theorem clj {j : Nat} (h : j < 24) : (nI j).toNatClampNeg = j := nI_clamp (by omega)
theorem holds_eq {o i j : Nat} {gv : Nat → Int64} (ho : 1 ≤ o) (ho' : o < 8) (hi : i < 8) (h3 : o = 3 → i < 4) (hj : j < 8) (hX : XRg gv) : F_X2_goesElsewhere (nI o) (nI i) (nI j) gv = F_X9_holds (nI o) (nI i) (nI j) gv := by
  unfold F_X2_goesElsewhere F_X9_holds F_X1_op F_X1_i F_X1_j F_X6_x F_X6_b
  rw [clj (show j < 24 by omega), cl16 hi, cl16 hj]
  rcases (show o = 1 ∨ o = 2 ∨ o = 3 ∨ o = 4 ∨ o = 5 ∨ o = 6 ∨ o = 7 by omega) with rfl | rfl | rfl | rfl | rfl | rfl | rfl
  · simp (decide := true) only [if_true, if_false]
  · simp (decide := true) only [if_true, if_false]
  · obtain ⟨n, hn, e⟩ := hX.w hj
    have hn' : n < 2 ^ 60 := by unfold O60 at hn; omega
    rw [e]
    unfold F_X2_wordHolds F_X4_isZero
    rw [neg_iff hn']
    have hi4 := h3 rfl
    generalize lN n = x
    rcases (show i = 0 ∨ i = 1 ∨ i = 2 ∨ i = 3 by omega) with rfl | rfl | rfl | rfl
    all_goals
      simp (decide := true) only [if_true, if_false]
      by_cases a : x = 0 <;> by_cases b : x = (1152921504606846975 : Int64) <;> by_cases c : x ≤ (576460752303423487 : Int64) <;> simp [a, b, c]
  all_goals
    obtain ⟨y, hy, ey⟩ := hX.s (n := 16 + i) (by omega) (by omega)
    obtain ⟨z, hz, ez⟩ := hX.s (n := 16 + j) (by omega) (by omega)
    unfold F_X2_shortsHold
    rw [ey, ez, plain_eq hy, plain_eq hz]
    generalize F_X9_signed (lN y) (262143 : Int64) = a
    generalize F_X9_signed (lN z) (262143 : Int64) = b
    simp (decide := true) only [if_true, if_false]
  · by_cases c : a = b
    · rw [if_pos ((cmp_0 a b).mpr c), if_pos c]
    · rw [if_neg (fun x => c ((cmp_0 a b).mp x)), if_neg c]
  · by_cases c : a = b
    · rw [if_pos ((cmp_0 a b).mpr c), if_pos c]
    · rw [if_neg (fun x => c ((cmp_0 a b).mp x)), if_neg c]
  · by_cases c : b ≤ a
    · rw [if_neg (fun x => (cmp_lt a b).mp x c), if_neg (Int64.not_lt.mpr c)]
    · rw [if_pos ((cmp_lt a b).mpr c), if_pos (Int64.not_le.mp c)]
  · by_cases c : b ≤ a
    · rw [if_pos (Int32.not_lt.mp fun x => (cmp_lt a b).mp x c), if_pos c]
    · rw [if_neg (Int32.not_le.mpr ((cmp_lt a b).mpr c)), if_neg c]
theorem jsets {o i j : Nat} (k : Nat) (ho : 1 ≤ o) (ho' : o < 8) (hi : i < 8) (hj : j < 8) (nn : Nat → Int32) : ∃ P xa, LR P 3 (F_X1_listNeeds (nI o) (nI i) (nI j) (nI k) (F_X1_unitOf (nI o)) (0 : Int32) nn) ∧ MR P xa ∧ (o = 1 → xa = 0) ∧ ∀ (xw xp : Int32) (xM xE xL : Int64) (xn xz : Int32) (xmw xmp xr : Nat → Int64) (xd : Nat → Int32) (xwt xf : Nat → Int64), F_X9_jump xw xp xM xE xL (nI o) (nI i) (nI j) xn xz xmw xmp xr xd xwt xf = F_X9_jump_76 xM (nI o) (nI i) (nI j) xn xz xr xf xw xp xE xL xa xmw xmp xd xwt := by
  rcases (show o = 1 ∨ o = 2 ∨ o = 3 ∨ o = 4 ∨ o = 5 ∨ o = 6 ∨ o = 7 by omega) with rfl | rfl | rfl | rfl | rfl | rfl | rfl
  · obtain ⟨P, h1, h2⟩ := jd_1 k hi hj nn
    exact ⟨P, _, h1, h2, fun _ => rfl, fun _ _ _ _ _ _ _ _ _ _ _ _ _ => by simp (decide := true) only [F_X9_jump, if_true, if_false]⟩
  · obtain ⟨P, h1, h2⟩ := jd_2 k hi hj nn
    exact ⟨P, _, h1, h2, fun q => by omega, fun _ _ _ _ _ _ _ _ _ _ _ _ _ => by simp (decide := true) only [F_X9_jump, if_true, if_false]⟩
  · obtain ⟨P, h1, h2⟩ := jd_3 k hi hj nn
    exact ⟨P, _, h1, h2, fun q => by omega, fun _ _ _ _ _ _ _ _ _ _ _ _ _ => by simp (decide := true) only [F_X9_jump, if_true, if_false]⟩
  · obtain ⟨P, h1, h2⟩ := jd_4 k hi hj nn
    exact ⟨P, _, h1, h2, fun q => by omega, fun _ _ _ _ _ _ _ _ _ _ _ _ _ => by simp (decide := true) only [F_X9_jump, if_true, if_false]⟩
  · obtain ⟨P, h1, h2⟩ := jd_5 k hi hj nn
    exact ⟨P, _, h1, h2, fun q => by omega, fun _ _ _ _ _ _ _ _ _ _ _ _ _ => by simp (decide := true) only [F_X9_jump, if_true, if_false]⟩
  · obtain ⟨P, h1, h2⟩ := jd_6 k hi hj nn
    exact ⟨P, _, h1, h2, fun q => by omega, fun _ _ _ _ _ _ _ _ _ _ _ _ _ => by simp (decide := true) only [F_X9_jump, if_true, if_false]⟩
  · obtain ⟨P, h1, h2⟩ := jd_7 k hi hj nn
    exact ⟨P, _, h1, h2, fun q => by omega, fun _ _ _ _ _ _ _ _ _ _ _ _ _ => by simp (decide := true) only [F_X9_jump, if_true, if_false]⟩
/-- the cycle of a jump, both ways -/
theorem when_eq {B o : Nat} {M E : Nat} {bf : Nat → Int32} {xf : Nat → Int64} {Tf : Nat → Nat} {nS : Int32} {nn : Nat → Int32} {xa : Int32} {P : Nat → Prop} (hB : B < 2 ^ 20) (hM : M ≤ B) (hE : E ≤ B) (hf : TF 24 B Tf bf xf) (hP : LR P 3 (nS, nn)) (mP : MR P xa) (h1 : o = 1 → xa = 0) (ho : o < 8) : ∃ v, v ≤ B + 1 ∧ E ≤ v ∧ (∀ (ew bL : Int32) (bd : Nat → Int32) (bw : Nat → Int64), ∃ w, max E w = v ∧ w ≤ B + 1 ∧ F_X0_doJump ew (nI M) (nI E) bL bd bw bf (nI o) nS nn = F_X0_doJump_27 ew (nI w) (nI E) bL bd bw) ∧ ∀ (xi xj xn xz xw xp : Int32) (xr : Nat → Int64) (xL : Int64) (xmw xmp : Nat → Int64) (xd : Nat → Int32) (xwt : Nat → Int64), F_X9_jump_76 (lN M) (nI o) xi xj xn xz xr xf xw xp (lN E) xL xa xmw xmp xd xwt = F_X9_jump_114 (nI o) xi xj xn xz xr (lN v) xw xp (lN E) xL xa xmw xmp xd xwt := by
  obtain ⟨m, e1, e2⟩ := free_max mP (hf.l (by omega))
  obtain ⟨g, e3, e4⟩ := latest_max hP (hf.i (by omega))
  have eg : g = m := e4.uniq e2
  subst eg
  have hm : g ≤ B := e2.le (by omega) fun n hn => (hf n hn).2.2
  by_cases c : o = 1
  · subst c
    have hx := h1 rfl
    subst hx
    have m0 : g = 0 := by
      obtain ⟨q, f1, f2⟩ := free_max (xf := xf) MR.nil (hf.l (by omega))
      rw [e1] at f1
      have := lN_inj (by omega) (by have := f2.le (B := B) (by omega) fun n hn => (hf n hn).2.2; omega) f1
      rcases f2.2.2 with z | ⟨_, _, z, _⟩
      · omega
      · exact z.elim
    refine ⟨max E (M + 1), by omega, by omega, fun ew bL bd bw => ⟨M + 1, rfl, by omega, ?_⟩, fun xi xj xn xz xw xp xr xL xmw xmp xd xwt => ?_⟩
    · unfold F_X0_doJump F_X1_op
      rw [if_pos (show nI 1 = (1 : Int32) from rfl), nI_1]
    · unfold F_X9_jump_76
      rw [if_pos (show nI 1 = (1 : Int32) from rfl), e1, m0, lmax (by omega) (by omega), lN_1, lmax (by omega) (by omega), show max (max E 0) (M + 1) = max E (M + 1) by omega]
  · have hne : ¬ nI o = (1 : Int32) := fun x => c (nI_inj (b := 1) (by omega) (by omega) x)
    refine ⟨max E g, by omega, by omega, fun ew bL bd bw => ⟨g, rfl, by omega, ?_⟩, fun xi xj xn xz xw xp xr xL xmw xmp xd xwt => ?_⟩
    · unfold F_X0_doJump F_X1_op
      rw [if_neg hne, e3]
    · unfold F_X9_jump_76
      rw [if_neg hne, e1, lmax (by omega) (by omega)]
theorem at_eq {t : Nat} (ht : t < 2 ^ 31) : F_X8_goOnAt (nI t) (3 : Int32) = (nI t, (0 : Int32), if nI t < (512 : Int32) then (3 : Int32) else 2) := by
  unfold F_X8_goOnAt F_X3_holds
  rw [if_neg (nI_pos ht)]
  by_cases c : (512 : Int32) ≤ nI t
  · rw [if_pos c, if_pos rfl, if_neg (Int32.not_lt.mpr c)]
  · rw [if_neg c, if_neg (by decide), if_pos (Int32.not_le.mp c)]
theorem behind_eq {w p o : Nat} (hw : w < 512) (hp : p < 4) (ho : o < 64) : ∃ t q, t ≤ 512 ∧ q < 4 ∧ F_X8_goOnBehind (nI w) (nI p) (3 : Int32) (nI o) = (nI t, nI q, if nI t < (512 : Int32) then (3 : Int32) else 2) ∧ F_X9_goOn (nI w) (nI p) (nI (Sz o)) = (nI t, nI q) := by
  have hs := sz_two o ho
  unfold F_X8_goOnBehind F_X9_goOn
  rw [sz_par o ho, nI_add, nI_1]
  by_cases c : 4 ≤ p + Sz o
  · rw [if_pos (show (4 : Int32) ≤ nI (p + Sz o) from nI_le (a := 4) c (by omega)), if_neg (show ¬ nI (p + Sz o) ≤ (3 : Int32) from nI_ge (a := 3) (by omega) (by omega)), at_eq (by omega)]
    exact ⟨w + 1, 0, by omega, by omega, rfl, rfl⟩
  · rw [if_neg (show ¬ (4 : Int32) ≤ nI (p + Sz o) from nI_ge (b := 4) (by omega) (by omega)), if_pos (show nI (p + Sz o) ≤ (3 : Int32) from nI_le (b := 3) (by omega) (by omega))]
    exact ⟨w, p + Sz o, by omega, by omega, by rw [if_pos (show nI w < (512 : Int32) from nI_lt (b := 512) hw (by omega))], rfl⟩
theorem way_eq : ∀ w, w < 512 → F_X2_wayBack (nI w) &&& (1152921504606846975 : Int64) = F_X2_wayBack (nI w) := by decide +kernel
theorem updL_self (f : Nat → Int64) (k : Nat) (x : Int64) : vp_updL f k x k = x := by simp [vp_updL]
theorem store_eq {c w : Nat} {mw mp : Nat → Int64} (hc : c < 2 ^ 31) (hw : w < 512) : F_X3_storeInProgram (nI c) (F_X2_wayBack (nI w)) mw mp = (if (512 : Int32) ≤ nI c then (mw, mp) else (vp_updL mw c (F_X2_wayBack (nI w)), vp_updL mp c (F_X2_wayBack (nI w)))) := by
  unfold F_X3_storeInProgram F_X3_store F_X3_holds
  rw [if_neg (nI_pos hc), way_eq w hw, nI_clamp hc]
  by_cases d : (512 : Int32) ≤ nI c
  · rw [if_pos d, if_pos rfl, if_pos rfl, if_pos d]
  · rw [if_neg d, if_neg (by decide), if_neg (by decide), if_neg d]
def MOk (f : Nat → Int64) : Prop := ∀ a, a < 512 → Nb O60 (f a)
theorem MOk.upd {f : Nat → Int64} (h : MOk f) {k : Nat} {v : Int64} (hv : Nb O60 v) : MOk (vp_updL f k v) := by
  intro a ha
  unfold vp_updL
  split
  · exact hv
  · exact h a ha
theorem sum18 {a : Int64} {c : Nat} (ha : Nb O18 a) (hc : c ≤ O18) : F_X4_sum a ((nI c).toInt64) (262143 : Int64) = F_X9_sum a ((nI c).toInt64) (262143 : Int64) ∧ ∃ t, t ≤ O18 ∧ (F_X9_sum a ((nI c).toInt64) (262143 : Int64)).toInt32 = nI t := by
  have hb : Nb O18 ((nI c).toInt64) := ⟨c, hc, nI_l (by unfold O18 at hc; omega)⟩
  refine ⟨sum_eq (k := 18) (by omega) ha hb, ?_⟩
  obtain ⟨t, h1, h2⟩ := nb_sum (M := O18) (by decide) ha hb
  have h3 : F_X9_sum a ((nI c).toInt64) (262143 : Int64) = lN t := h2
  exact ⟨t, h1, by rw [h3, lN_i]⟩
