theorem do27 {ew : Int32} {w E L v : Nat} {bd : Nat → Int32} {bw : Nat → Int64} (hE : E < 2 ^ 29) (hw : w < 2 ^ 29) (hL : L < 2 ^ 29) (hv : max E w = v) : F_X0_doJump_27 ew (nI w) (nI E) (nI L) bd bw = (if ew = 0 then (nI (v + 4), nI (max L v), upd bd 6 (bd 6 + 1), wt bw 2 (v - E)) else (nI (v + 8), nI (max L v), upd (upd bd 6 (bd 6 + 1)) 7 ((upd bd 6 (bd 6 + 1)) 7 + 1), wt bw 2 (v - E))) := by
  unfold F_X0_doJump_27 F_X0_doJump_71 F_X0_doJump_84
  rw [wait_eq (by omega) (by omega), hv, cl2, cl6, cl7]
  simp only
  rw [reach_eq (by omega) (by omega), show (4 : Int32) = nI 4 from rfl, show (8 : Int32) = nI 8 from rfl, nI_add, nI_add]
  by_cases c : ew = 0
  · simp only [if_pos c]
  · simp only [if_neg c]
theorem jump114 {o i j c w p z v E L : Nat} {gv : Nat → Int64} {xa : Int32} {mw mp : Nat → Int64} {bd : Nat → Int32} {bw : Nat → Int64} (hE : E ≤ v) (hv : v < 2 ^ 29) (hL : L < 2 ^ 29) : F_X9_jump_114 (nI o) (nI i) (nI j) (nI c) (nI z) gv (lN v) (nI w) (nI p) (lN E) (lN L) xa mw mp bd bw = (if F_X9_holds (nI o) (nI i) (nI j) gv = 0 then ((F_X9_goOn (nI w) (nI p) (nI z)).1, (F_X9_goOn (nI w) (nI p) (nI z)).2, lN (v + 4), lN (max L v), xa, mw, mp, upd bd 6 (bd 6 + 1), wt bw 2 (v - E)) else F_X9_jump_240 (nI o) (nI c) (if nI o = (2 : Int32) then (F_X9_sum (gv ((16 : Int32) + nI i).toNatClampNeg) (nI c).toInt64 (262143 : Int64)).toInt32 else nI c) (nI w) (nI p) (lN (v + 8)) (lN (max L v)) xa mw mp (upd (upd bd 6 (bd 6 + 1)) 7 ((upd bd 6 (bd 6 + 1)) 7 + 1)) (wt bw 2 (v - E))) := by
  unfold F_X9_jump_114 F_X9_jump_177
  rw [cl2, cl6, cl7, add_sub _ hE, lmax (by omega) (by omega), show (4 : Int64) = lN 4 from rfl, show (8 : Int64) = lN 8 from rfl, lN_add, lN_add]
  by_cases c : F_X9_holds (nI o) (nI i) (nI j) gv = 0
  · simp only [if_pos c]
    rfl
  · simp only [if_neg c]
    by_cases d : nI o = (2 : Int32)
    · simp only [if_pos d]
      rfl
    · simp only [if_neg d]
      rfl
theorem jump_eq {B o i j k c w p : Nat} {bM bE bL : Int32} {bu bf br : Nat → Int32} {xM xE xL : Int64} {xu xf xrd : Nat → Int64} {nS : Int32} {nn nn0 : Nat → Int32} {gv mw mp : Nat → Int64} {bd : Nat → Int32} {bw : Nat → Int64} (hB : B < 2 ^ 20) (hT : Tms B bM bE bL bu bf br xM xE xL xu xf xrd) (ho : 1 ≤ o) (ho' : o < 8) (hi : i < 8) (h3 : o = 3 → i < 4) (hj : j < 8) (hc : c ≤ O18) (hw : w < 512) (hp : p < 4) (hX : XRg gv) (hmw : MOk mw) (hmp : MOk mp) (hl : (nS, nn) = F_X1_listNeeds (nI o) (nI i) (nI j) (nI k) (F_X1_unitOf (nI o)) (0 : Int32) nn0) : ∀ r s, r = F_X8_takeJump (nI w) (nI p) (3 : Int32) mw mp gv bM bE bL bd bw bf (nI o) (nI i) (nI j) (nI c) nS nn → s = F_X9_jump (nI w) (nI p) xM xE xL (nI o) (nI i) (nI j) (nI c) (nI (Sz o)) mw mp gv bd bw xf → ∃ t q, t < 2 ^ 31 ∧ q < 4 ∧ r.1 = nI t ∧ s.1 = nI t ∧ r.2.1 = nI q ∧ s.2.1 = nI q ∧ r.2.2.1 = (if nI t < (512 : Int32) then (3 : Int32) else 2) ∧ r.2.2.2.1 = s.2.2.2.2.2.1 ∧ r.2.2.2.2.1 = s.2.2.2.2.2.2.1 ∧ MOk r.2.2.2.1 ∧ MOk r.2.2.2.2.1 ∧ Tms (B + 20) bM r.2.2.2.2.2.1 r.2.2.2.2.2.2.1 bu bf br xM s.2.2.1 s.2.2.2.1 xu xf xrd ∧ r.2.2.2.2.2.2.2.1 = s.2.2.2.2.2.2.2.1 ∧ r.2.2.2.2.2.2.2.2 = s.2.2.2.2.2.2.2.2 := by
  obtain ⟨M, E, L, TU, Tf, Tr, ⟨rfl, rfl, hM⟩, ⟨rfl, rfl, hE⟩, ⟨rfl, rfl, hL⟩, hU, hf, hr⟩ := hT
  obtain ⟨P, xa, j1, j2, j3, j4⟩ := jsets k ho ho' hi hj nn0
  rw [← hl] at j1
  obtain ⟨v, v1, v2, v3, v4⟩ := when_eq hB hM hE hf j1 j2 j3 ho'
  intro r s hr' hs'
  rw [j4, v4, jump114 v2 (by omega) (by omega)] at hs'
  obtain ⟨w', e1, e2, e3⟩ := v3 (F_X2_goesElsewhere (nI o) (nI i) (nI j) gv) (nI L) bd bw
  unfold F_X8_takeJump at hr'
  rw [e3, do27 (by omega) (by omega) (by omega) e1, holds_eq ho ho' hi h3 hj hX] at hr'
  have T4 : ∀ d, d ≤ 8 → Tms (B + 20) (nI M) (nI (v + d)) (nI (max L v)) bu bf br (lN M) (lN (v + d)) (lN (max L v)) xu xf xrd := fun d hd => ⟨M, v + d, max L v, TU, Tf, Tr, ⟨rfl, rfl, by omega⟩, ⟨rfl, rfl, by omega⟩, ⟨rfl, rfl, by omega⟩, hU.up (by omega), hf.up (by omega), hr.up (by omega)⟩
  by_cases g : F_X9_holds (nI o) (nI i) (nI j) gv = 0
  · simp only [if_pos g] at hr' hs'
    obtain ⟨t, q, b1, b2, b3, b4⟩ := behind_eq hw hp (show o < 64 by omega)
    rw [b3] at hr'
    rw [b4] at hs'
    rw [hr', hs']
    exact ⟨t, q, by omega, b2, rfl, rfl, rfl, rfl, rfl, rfl, rfl, hmw, hmp, T4 4 (by omega), rfl, rfl⟩
  · simp only [if_neg g] at hr' hs'
    have hb18 : Nb O18 (gv ((16 : Int32) + nI i).toNatClampNeg) := by rw [cl16 hi]; exact hX.s (by omega) (by omega)
    obtain ⟨s1, t2, s2, s3⟩ := sum18 (c := c) hb18 hc
    have hc31 : c + 1 < 2 ^ 31 := by unfold O18 at hc; omega
    unfold F_X8_takeJump_77 F_X2_target F_X1_op F_X1_constant F_X1_i F_X6_b at hr'
    unfold F_X9_jump_240 F_X9_jump_301 F_X9_jump_309 at hs'
    by_cases c1 : o = 1
    · subst c1
      simp (decide := true) only [if_true, if_false] at hr' hs'
      rw [nI_1, at_eq hc31, store_eq (by omega) hw] at hr'
      rw [nI_1, updL_self, nI_clamp (by omega)] at hs'
      by_cases d : (512 : Int32) ≤ nI c
      · simp only [if_pos d] at hr' hs'
        rw [hr', hs']
        exact ⟨c + 1, 0, hc31, by omega, rfl, rfl, rfl, rfl, rfl, rfl, rfl, hmw, hmp, T4 8 (by omega), rfl, rfl⟩
      · simp only [if_neg d] at hr' hs'
        rw [hr', hs']
        have hn : Nb O60 (F_X2_wayBack (nI w)) := by rw [← way_eq w hw]; exact nb_and60 _
        exact ⟨c + 1, 0, hc31, by omega, rfl, rfl, rfl, rfl, rfl, by unfold F_X2_wayBack; rw [nI_1], by unfold F_X2_wayBack; rw [nI_1], hmw.upd hn, hmp.upd hn, T4 8 (by omega), rfl, rfl⟩
    · have n1 : ¬ nI o = (1 : Int32) := fun x => c1 (nI_inj (b := 1) (by omega) (by omega) x)
      simp only [if_neg n1] at hr' hs'
      by_cases c2 : o = 2
      · subst c2
        simp (decide := true) only [if_true, if_false] at hr' hs'
        rw [s1, s3, at_eq (by unfold O18 at s2; omega)] at hr'
        rw [s3] at hs'
        rw [hr', hs']
        exact ⟨t2, 0, by unfold O18 at s2; omega, by omega, rfl, rfl, rfl, rfl, rfl, rfl, rfl, hmw, hmp, T4 8 (by omega), rfl, rfl⟩
      · have n2 : ¬ nI o = (2 : Int32) := fun x => c2 (nI_inj (b := 2) (by omega) (by omega) x)
        simp only [if_neg n2] at hr' hs'
        rw [at_eq (by omega)] at hr'
        rw [hr', hs']
        exact ⟨c, 0, by omega, by omega, rfl, rfl, rfl, rfl, rfl, rfl, rfl, hmw, hmp, T4 8 (by omega), rfl, rfl⟩
