theorem run31 {v1 : Int32} {xt : Int32} {xw : Int32} {xp : Int32} {xs : Int32} {xc : Int64} {xM : Int64} {xE : Int64} {xL : Int64} {xo : Int32} {xi : Int32} {xj : Int32} {xk : Int32} {xn : Int32} {xz : Int32} {xa : Int32} {xg : Int32} {xmw : Nat → Int64} {xmp : Nat → Int64} {xr : Nat → Int64} {xd : Nat → Int32} {xwt : Nat → Int64} {xf : Nat → Int64} {xrd : Nat → Int64} {xu : Nat → Int64} : ∀ (fuel t : Nat) (f : Nat → Int64), t ≤ 512 → 512 < t + fuel → (∀ j, f j = if j < t then xmw j else xmp j) → F_X9_run_31 fuel v1 (nI t) xt xw xp xs xc xM xE xL xo xi xj xk xn xz xa xg xmw f xr xd xwt xf xrd xu = F_X9_run_58 25 v1 (0 : Int32) xt xw xp xs xc xM xE xL xo xi xj xk xn xz xa xg xmw (va_cpy xmw xmp 0 0 512) xr xd xwt xf xrd xu := by
  intro fuel
  induction fuel with
  | zero => intro t f h1 h2; omega
  | succ k ih =>
    intro t f h1 h2 hf
    rw [F_X9_run_31]
    by_cases e : t = 512
    · rw [if_pos (show (512 : Int32) ≤ nI t from nI_le (a := 512) (by omega) (by omega))]
      have : f = va_cpy xmw xmp 0 0 512 := by
        funext j
        rw [hf j]
        unfold va_cpy
        subst e
        by_cases c : j < 512
        · rw [if_pos c, if_pos ⟨Nat.zero_le _, by omega⟩]
          congr 1
          omega
        · rw [if_neg c, if_neg (fun q => by omega)]
      rw [this]
    · rw [if_neg (show ¬ (512 : Int32) ≤ nI t from nI_ge (b := 512) (by omega) (by omega)), nI_1, nI_clamp (by omega)]
      refine ih (t + 1) _ (by omega) (by omega) (fun j => ?_)
      unfold vp_updL
      by_cases c : j = t
      · rw [if_pos c, if_pos (by omega), c]
      · rw [if_neg c, hf j]
        by_cases d : j < t
        · rw [if_pos d, if_pos (by omega)]
        · rw [if_neg d, if_neg (by omega)]
theorem run58 {v1 : Int32} {xt : Int32} {xw : Int32} {xp : Int32} {xs : Int32} {xc : Int64} {xM : Int64} {xE : Int64} {xL : Int64} {xo : Int32} {xi : Int32} {xj : Int32} {xk : Int32} {xn : Int32} {xz : Int32} {xa : Int32} {xg : Int32} {xmw : Nat → Int64} {xmp : Nat → Int64} {xr : Nat → Int64} {xd : Nat → Int32} {xwt : Nat → Int64} {xu : Nat → Int64} : ∀ (fuel t : Nat) (f g : Nat → Int64), t ≤ 24 → 24 < t + fuel → (∀ j, j < t → f j = 0 ∧ g j = 0) → ∃ f' g' : Nat → Int64, (∀ j, j < 24 → f' j = 0 ∧ g' j = 0) ∧ F_X9_run_58 fuel v1 (nI t) xt xw xp xs xc xM xE xL xo xi xj xk xn xz xa xg xmw xmp xr xd xwt f g xu = F_X9_run_86 7 v1 (0 : Int32) xt xw xp xs xc xM xE xL xo xi xj xk xn xz xa xg xmw xmp xr xd xwt f' g' xu := by
  intro fuel
  induction fuel with
  | zero => intro t f g h1 h2; omega
  | succ k ih =>
    intro t f g h1 h2 hf
    rw [F_X9_run_58]
    by_cases e : t = 24
    · rw [if_pos (show (24 : Int32) ≤ nI t from nI_le (a := 24) (by omega) (by omega))]
      exact ⟨f, g, fun j hj => hf j (by omega), rfl⟩
    · rw [if_neg (show ¬ (24 : Int32) ≤ nI t from nI_ge (b := 24) (by omega) (by omega)), nI_1, nI_clamp (by omega)]
      refine ih (t + 1) _ _ (by omega) (by omega) (fun j hj => ?_)
      unfold vp_updL
      by_cases c : j = t
      · simp [c]
      · simp only [if_neg c]
        exact hf j (by omega)
theorem run86 {v1 : Int32} {xt : Int32} {xw : Int32} {xp : Int32} {xs : Int32} {xc : Int64} {xM : Int64} {xE : Int64} {xL : Int64} {xo : Int32} {xi : Int32} {xj : Int32} {xk : Int32} {xn : Int32} {xz : Int32} {xa : Int32} {xg : Int32} {xmw : Nat → Int64} {xmp : Nat → Int64} {xr : Nat → Int64} {xd : Nat → Int32} {xwt : Nat → Int64} {xf : Nat → Int64} {xrd : Nat → Int64} : ∀ (fuel t : Nat) (f : Nat → Int64), t ≤ 6 → 6 < t + fuel → (∀ j, j < t → f j = 0) → ∃ f' : Nat → Int64, (∀ j, j < 6 → f' j = 0) ∧ F_X9_run_86 fuel v1 (nI t) xt xw xp xs xc xM xE xL xo xi xj xk xn xz xa xg xmw xmp xr xd xwt xf xrd f = F_X9_run_122 2001 v1 (0 : Int32) xt xw xp xs xc (0 : Int64) (1 : Int64) (0 : Int64) xo xi xj xk xn xz xa xg xmw xmp xr xd xwt xf xrd f' := by
  intro fuel
  induction fuel with
  | zero => intro t f h1 h2; omega
  | succ k ih =>
    intro t f h1 h2 hf
    rw [F_X9_run_86]
    by_cases e : t = 6
    · rw [if_pos (show (6 : Int32) ≤ nI t from nI_le (a := 6) (by omega) (by omega))]
      exact ⟨f, fun j hj => hf j (by omega), rfl⟩
    · rw [if_neg (show ¬ (6 : Int32) ≤ nI t from nI_ge (b := 6) (by omega) (by omega)), nI_1, nI_clamp (by omega)]
      refine ih (t + 1) _ (by omega) (by omega) (fun j hj => ?_)
      unfold vp_updL
      by_cases c : j = t
      · simp [c]
      · simp only [if_neg c]
        exact hf j (by omega)
theorem fill0 {N : Nat} (hN : N < 2 ^ 31) : ∀ (fuel t : Nat) (f : Nat → Int32), t ≤ N → N < t + fuel → (∀ j, j < t → f j = 0) → ∀ j, j < N → F_J7_fill_53178_5 fuel (0 : Int32) (nI t) (nI N) f j = 0 := by
  intro fuel
  induction fuel with
  | zero => intro t f h1 h2; omega
  | succ k ih =>
    intro t f h1 h2 hf
    rw [F_J7_fill_53178_5]
    by_cases e : t = N
    · rw [if_pos (nI_le (by omega) (by omega))]
      exact fun j hj => hf j (by omega)
    · rw [if_neg (nI_ge (by omega) (by omega)), nI_1, nI_clamp (by omega)]
      refine ih (t + 1) _ (by omega) (by omega) (fun j hj => ?_)
      unfold upd
      by_cases c : j = t
      · simp [c]
      · simp only [if_neg c]
        exact hf j (by omega)
theorem fillz {N : Nat} (hN : N < 2 ^ 31) (f : Nat → Int32) : ∀ j, j < N → F_J7_fill_53178 (0 : Int32) N f j = 0 := by
  unfold F_J7_fill_53178
  exact fill0 hN (N + 1) 0 f (Nat.zero_le _) (by omega) (fun j hj => by omega)
/-- class and reference between two calls -/
def Rl (cw cp cs : Int32) (mw mp gv : Nat → Int64) (bC : Int64) (bd : Nat → Int32) (bw : Nat → Int64) (nS : Int32) (nn : Nat → Int32) (rS : Int32) (rr : Nat → Int32) (xw xp xs : Int32) (xmw xmp xr : Nat → Int64) (xc : Int64) (xd : Nat → Int32) (xwt : Nat → Int64) : Prop := (cw = xw ∧ cp = xp ∧ cs = xs ∧ bC = xc) ∧ (mw = xmw ∧ mp = xmp ∧ gv = xr ∧ bd = xd ∧ bw = xwt) ∧ (MOk mw ∧ XRg gv) ∧ (cs = 3 → vp_in cw 512) ∧ (∃ p : Nat, p < 4 ∧ cp = nI p) ∧ LOk nS nn ∧ LOk rS rr
set_option maxRecDepth 8000 in
theorem run_end {B : Nat} {v2 : Int32} {cw : Int32} {cp : Int32} {cs : Int32} {mw : Nat → Int64} {mp : Nat → Int64} {gv : Nat → Int64} {bC : Int64} {bM : Int32} {bE : Int32} {bL : Int32} {bd : Nat → Int32} {bw : Nat → Int64} {bu : Nat → Int32} {bf : Nat → Int32} {br : Nat → Int32} {iop : Int32} {ii : Int32} {ij : Int32} {ik : Int32} {ic : Int32} {ip : Int32} {iu : Int32} {nS : Int32} {nn : Nat → Int32} {rS : Int32} {rr : Nat → Int32} {xt : Int32} {xw : Int32} {xp : Int32} {xs : Int32} {xc : Int64} {xM : Int64} {xE : Int64} {xL : Int64} {xo : Int32} {xi : Int32} {xj : Int32} {xk : Int32} {xn : Int32} {xz : Int32} {xa : Int32} {xg : Int32} {xmw : Nat → Int64} {xmp : Nat → Int64} {xr : Nat → Int64} {xd : Nat → Int32} {xwt : Nat → Int64} {xf : Nat → Int64} {xrd : Nat → Int64} {xu : Nat → Int64} (hB : B < 2 ^ 20) (h : Inv B cw cp cs mw mp gv bM bE bL bd bw bu bf br xw xp xs xmw xmp xr xM xE xL xd xwt xu xf xrd) (hc : bC = xc) (hn : LOk nS nn) (hr : LOk rS rr) : ∀ r s, r = F_X8_run_66 v2 cw cp cs mw mp gv bC bM bE bL bd bw bu bf br iop ii ij ik ic ip iu nS nn rS rr → s = F_X9_run_148 v2 xt xw xp xs xc xM xE xL xo xi xj xk xn xz xa xg xmw xmp xr xd xwt xf xrd xu → r.1 = s.1 ∧ s.2.1 = xt ∧ Rl r.2.1 r.2.2.1 r.2.2.2.1 r.2.2.2.2.1 r.2.2.2.2.2.1 r.2.2.2.2.2.2.1 r.2.2.2.2.2.2.2.1 r.2.2.2.2.2.2.2.2.2.2.2.1 r.2.2.2.2.2.2.2.2.2.2.2.2.1 r.2.2.2.2.2.2.2.2.2.2.2.2.2.2.2.2.2.2.2.2.2.2.2.1 r.2.2.2.2.2.2.2.2.2.2.2.2.2.2.2.2.2.2.2.2.2.2.2.2.1 r.2.2.2.2.2.2.2.2.2.2.2.2.2.2.2.2.2.2.2.2.2.2.2.2.2.1 r.2.2.2.2.2.2.2.2.2.2.2.2.2.2.2.2.2.2.2.2.2.2.2.2.2.2 s.2.2.1 s.2.2.2.1 s.2.2.2.2.1 s.2.2.2.2.2.2.2.2.2.2.2.2.2.2.2.2.2.1 s.2.2.2.2.2.2.2.2.2.2.2.2.2.2.2.2.2.2.1 s.2.2.2.2.2.2.2.2.2.2.2.2.2.2.2.2.2.2.2.1 s.2.2.2.2.2.1 s.2.2.2.2.2.2.2.2.2.2.2.2.2.2.2.2.2.2.2.2.1 s.2.2.2.2.2.2.2.2.2.2.2.2.2.2.2.2.2.2.2.2.2.1 := by
  intro r s hr' hs'
  obtain ⟨⟨rfl, rfl, rfl⟩, ⟨rfl, rfl, rfl, rfl, rfl⟩, ⟨hmw, hmp, hX⟩, hin, hp, hT⟩ := h
  obtain ⟨M, E, L, TU, Tf, Tr, ⟨rfl, rfl, hM⟩, ⟨rfl, rfl, hE⟩, ⟨rfl, rfl, hL⟩, hU, hf, hrr⟩ := hT
  subst hc
  unfold F_X8_run_66 F_X0_countCycles at hr'
  unfold F_X9_run_148 at hs'
  rw [nI_l (by omega)] at hr'
  rw [hr', hs']
  exact ⟨rfl, rfl, ⟨rfl, rfl, rfl, rfl⟩, ⟨rfl, rfl, rfl, rfl, rfl⟩, ⟨hmw, hX⟩, hin, hp, hn, hr⟩
set_option maxRecDepth 8000 in
theorem run_loop {N : Nat} (hN : N ≤ 2000) : ∀ (fuel t : Nat) (cw : Int32) (cp : Int32) (cs : Int32) (mw : Nat → Int64) (mp : Nat → Int64) (gv : Nat → Int64) (bC : Int64) (bM : Int32) (bE : Int32) (bL : Int32) (bd : Nat → Int32) (bw : Nat → Int64) (bu : Nat → Int32) (bf : Nat → Int32) (br : Nat → Int32) (iop : Int32) (ii : Int32) (ij : Int32) (ik : Int32) (ic : Int32) (ip : Int32) (iu : Int32) (nS : Int32) (nn : Nat → Int32) (rS : Int32) (rr : Nat → Int32) (xt : Int32) (xw : Int32) (xp : Int32) (xs : Int32) (xc : Int64) (xM : Int64) (xE : Int64) (xL : Int64) (xo : Int32) (xi : Int32) (xj : Int32) (xk : Int32) (xn : Int32) (xz : Int32) (xa : Int32) (xg : Int32) (xmw : Nat → Int64) (xmp : Nat → Int64) (xr : Nat → Int64) (xd : Nat → Int32) (xwt : Nat → Int64) (xf : Nat → Int64) (xrd : Nat → Int64) (xu : Nat → Int64), t ≤ N → N < t + fuel → Inv (1 + 20 * t) cw cp cs mw mp gv bM bE bL bd bw bu bf br xw xp xs xmw xmp xr xM xE xL xd xwt xu xf xrd → bC = xc → LOk nS nn → LOk rS rr → ∀ r s, r = F_X8_run_37 fuel (nI N) (nI t) (nI t) cw cp cs mw mp gv bC bM bE bL bd bw bu bf br iop ii ij ik ic ip iu nS nn rS rr → s = F_X9_run_122 fuel (nI N) (nI t) xt xw xp xs xc xM xE xL xo xi xj xk xn xz xa xg xmw xmp xr xd xwt xf xrd xu → r.1 = s.1 ∧ s.2.1 = xt ∧ Rl r.2.1 r.2.2.1 r.2.2.2.1 r.2.2.2.2.1 r.2.2.2.2.2.1 r.2.2.2.2.2.2.1 r.2.2.2.2.2.2.2.1 r.2.2.2.2.2.2.2.2.2.2.2.1 r.2.2.2.2.2.2.2.2.2.2.2.2.1 r.2.2.2.2.2.2.2.2.2.2.2.2.2.2.2.2.2.2.2.2.2.2.2.1 r.2.2.2.2.2.2.2.2.2.2.2.2.2.2.2.2.2.2.2.2.2.2.2.2.1 r.2.2.2.2.2.2.2.2.2.2.2.2.2.2.2.2.2.2.2.2.2.2.2.2.2.1 r.2.2.2.2.2.2.2.2.2.2.2.2.2.2.2.2.2.2.2.2.2.2.2.2.2.2 s.2.2.1 s.2.2.2.1 s.2.2.2.2.1 s.2.2.2.2.2.2.2.2.2.2.2.2.2.2.2.2.2.1 s.2.2.2.2.2.2.2.2.2.2.2.2.2.2.2.2.2.2.1 s.2.2.2.2.2.2.2.2.2.2.2.2.2.2.2.2.2.2.2.1 s.2.2.2.2.2.1 s.2.2.2.2.2.2.2.2.2.2.2.2.2.2.2.2.2.2.2.2.1 s.2.2.2.2.2.2.2.2.2.2.2.2.2.2.2.2.2.2.2.2.2.1 := by
  intro fuel
  induction fuel with
  | zero => intro t; intros; omega
  | succ k ih =>
    intro t cw cp cs mw mp gv bC bM bE bL bd bw bu bf br iop ii ij ik ic ip iu nS nn rS rr xt xw xp xs xc xM xE xL xo xi xj xk xn xz xa xg xmw xmp xr xd xwt xf xrd xu h1 h2 hI hc hn hr r s hr' hs'
    rw [F_X8_run_37] at hr'
    rw [F_X9_run_122] at hs'
    by_cases e : t = N
    · have hle : nI N ≤ nI t := nI_le (by omega) (by omega)
      rw [if_pos hle] at hr' hs'
      exact run_end (by omega) hI hc hn hr r s hr' hs'
    · have hle : ¬ nI N ≤ nI t := nI_ge (by omega) (by omega)
      rw [if_neg hle] at hr' hs'
      have hcs : cs = xs := hI.1.2.2
      by_cases c3 : cs = 3
      · rw [if_pos c3] at hr'
        rw [if_pos (hcs.symm.trans c3)] at hs'
        have hl := tk_ok (cw := cw) (cp := cp) (cs := cs) (mw := mw) (mp := mp) (gv := gv) (bM := bM) (bE := bE) (bL := bL) (bd := bd) (bw := bw) (bu := bu) (bf := bf) (br := br) (ic := ic) (iu := iu) hn hr
        have hq := turn_eq (by omega) hI c3 ic iu nS nn rS rr xo xi xj xk xn xz xa xg _ _ rfl rfl
        generalize F_X8_takeNext cw cp cs mw mp gv bM bE bL bd bw bu bf br ic iu nS nn rS rr = RJ at hr' hl hq
        generalize F_X9_one xw xp xs xM xE xL xo xi xj xk xn xz xa xg xmw xmp xr xd xwt xf xrd xu = SJ at hs' hq
        obtain ⟨a1, a2, a3, a4⟩ := hq
        by_cases z : RJ.1 = 0
        · rw [if_pos z] at hr'
          rw [if_pos (a1.symm.trans z)] at hs'
          cases k with
          | zero => omega
          | succ k' =>
            rw [F_X8_run_37] at hr'
            rw [if_neg (a2 z), ite_self] at hr'
            exact run_end (by omega) a4 hc hl.1 hl.2 r s hr' hs'
        · rw [if_neg z] at hr'
          rw [if_neg (fun q => z (a1.trans q))] at hs'
          rw [nI_1] at hr' hs'
          exact ih (t + 1) _ _ _ _ _ _ _ _ _ _ _ _ _ _ _ _ _ _ _ _ _ _ _ _ _ _ _ _ _ _ _ _ _ _ _ _ _ _ _ _ _ _ _ _ _ _ _ _ _ _ (by omega) (by omega) (by rw [show 1 + 20 * (t + 1) = 1 + 20 * t + 20 by omega]; exact a4) hc hl.1 hl.2 r s hr' hs'
      · rw [if_neg c3] at hr'
        rw [if_neg (fun q => c3 (hcs.trans q))] at hs'
        exact run_end (by omega) hI hc hn hr r s hr' hs'
set_option maxRecDepth 8000 in
theorem run_eq {n : Int32} {cw : Int32} {cp : Int32} {cs : Int32} {mw : Nat → Int64} {mp : Nat → Int64} {gv : Nat → Int64} {bC : Int64} {bM : Int32} {bE : Int32} {bL : Int32} {bd : Nat → Int32} {bw : Nat → Int64} {bu : Nat → Int32} {bf : Nat → Int32} {br : Nat → Int32} {iop : Int32} {ii : Int32} {ij : Int32} {ik : Int32} {ic : Int32} {ip : Int32} {iu : Int32} {nS : Int32} {nn : Nat → Int32} {rS : Int32} {rr : Nat → Int32} {xw : Int32} {xp : Int32} {xs : Int32} {xc : Int64} {xM : Int64} {xE : Int64} {xL : Int64} {xo : Int32} {xi : Int32} {xj : Int32} {xk : Int32} {xn : Int32} {xz : Int32} {xa : Int32} {xg : Int32} {xmw : Nat → Int64} {xmp : Nat → Int64} {xr : Nat → Int64} {xd : Nat → Int32} {xwt : Nat → Int64} {xf : Nat → Int64} {xrd : Nat → Int64} {xu : Nat → Int64} (hok : ¬ n < 0 ∧ n ≤ (2000 : Int32)) (h : Rl cw cp cs mw mp gv bC bd bw nS nn rS rr xw xp xs xmw xmp xr xc xd xwt) : ∀ r s, r = F_X8_run n cw cp cs mw mp gv bC bM bE bL bd bw bu bf br iop ii ij ik ic ip iu nS nn rS rr → s = F_X9_run n xw xp xs xc xM xE xL xo xi xj xk xn xz xa xg xmw xmp xr xd xwt xf xrd xu → r.1 = s.1 ∧ s.2.1 = 0 ∧ Rl r.2.1 r.2.2.1 r.2.2.2.1 r.2.2.2.2.1 r.2.2.2.2.2.1 r.2.2.2.2.2.2.1 r.2.2.2.2.2.2.2.1 r.2.2.2.2.2.2.2.2.2.2.2.1 r.2.2.2.2.2.2.2.2.2.2.2.2.1 r.2.2.2.2.2.2.2.2.2.2.2.2.2.2.2.2.2.2.2.2.2.2.2.1 r.2.2.2.2.2.2.2.2.2.2.2.2.2.2.2.2.2.2.2.2.2.2.2.2.1 r.2.2.2.2.2.2.2.2.2.2.2.2.2.2.2.2.2.2.2.2.2.2.2.2.2.1 r.2.2.2.2.2.2.2.2.2.2.2.2.2.2.2.2.2.2.2.2.2.2.2.2.2.2 s.2.2.1 s.2.2.2.1 s.2.2.2.2.1 s.2.2.2.2.2.2.2.2.2.2.2.2.2.2.2.2.2.1 s.2.2.2.2.2.2.2.2.2.2.2.2.2.2.2.2.2.2.1 s.2.2.2.2.2.2.2.2.2.2.2.2.2.2.2.2.2.2.2.1 s.2.2.2.2.2.1 s.2.2.2.2.2.2.2.2.2.2.2.2.2.2.2.2.2.2.2.2.1 s.2.2.2.2.2.2.2.2.2.2.2.2.2.2.2.2.2.2.2.2.2.1 := by
  obtain ⟨⟨rfl, rfl, rfl, rfl⟩, ⟨rfl, rfl, rfl, rfl, rfl⟩, ⟨hmw, hX⟩, hin, hp, hn, hr⟩ := h
  obtain ⟨N, hN, rfl⟩ := nI_of2 (M := (2000 : Int32)) (n := 2000) rfl hok.1 hok.2
  intro r s hr' hs'
  unfold F_X8_run F_X3_keepProgram F_X0_empty at hr'
  rw [if_neg hok.1, if_pos hok.2, cl0, show (512 : Int32).toNatClampNeg = 512 from by decide] at hr'
  dsimp only at hr'
  unfold F_X9_run at hs'
  rw [if_neg hok.1, if_pos hok.2, if_pos d00, show F_X9_run_31 513 (nI N) (0 : Int32) = F_X9_run_31 513 (nI N) (nI 0) from rfl, run31 513 0 mp (by omega) (by omega) (fun j => (if_neg (Nat.not_lt_zero j)).symm)] at hs'
  obtain ⟨xf', xrd', z1, e1⟩ := run58 (v1 := nI N) (xt := (0 : Int32)) (xw := cw) (xp := cp) (xs := cs) (xc := bC) (xM := xM) (xE := xE) (xL := xL) (xo := xo) (xi := xi) (xj := xj) (xk := xk) (xn := xn) (xz := xz) (xa := xa) (xg := xg) (xmw := mw) (xmp := va_cpy mw mp 0 0 512) (xr := gv) (xd := bd) (xwt := bw) (xu := xu) 25 0 xf xrd (by omega) (by omega) (fun j hj => by omega)
  rw [show F_X9_run_58 25 (nI N) (0 : Int32) = F_X9_run_58 25 (nI N) (nI 0) from rfl, e1] at hs'
  obtain ⟨xu', z2, e2⟩ := run86 (v1 := nI N) (xt := (0 : Int32)) (xw := cw) (xp := cp) (xs := cs) (xc := bC) (xM := xM) (xE := xE) (xL := xL) (xo := xo) (xi := xi) (xj := xj) (xk := xk) (xn := xn) (xz := xz) (xa := xa) (xg := xg) (xmw := mw) (xmp := va_cpy mw mp 0 0 512) (xr := gv) (xd := bd) (xwt := bw) (xf := xf') (xrd := xrd') 7 0 xu (by omega) (by omega) (fun j hj => by omega)
  rw [show F_X9_run_86 7 (nI N) (0 : Int32) = F_X9_run_86 7 (nI N) (nI 0) from rfl, e2] at hs'
  have hmp' : MOk (va_cpy mw mp 0 0 512) := by
    intro a ha
    rw [pk_cpy_in (by omega) (by omega)]
    exact hmw _ (by omega)
  have hT : Tms (1 + 20 * 0) (0 : Int32) (1 : Int32) (0 : Int32) (F_J7_fill_53178 (0 : Int32) 6 bu) (F_J7_fill_53178 (0 : Int32) 24 bf) (F_J7_fill_53178 (0 : Int32) 24 br) (0 : Int64) (1 : Int64) (0 : Int64) xu' xf' xrd' := ⟨0, 1, 0, fun _ => 0, fun _ => 0, fun _ => 0, ⟨rfl, rfl, by omega⟩, ⟨rfl, rfl, by omega⟩, ⟨rfl, rfl, by omega⟩, fun j hj => ⟨fillz (by omega) bu j hj, z2 j hj, Nat.zero_le _⟩, fun j hj => ⟨fillz (by omega) bf j hj, (z1 j hj).1, Nat.zero_le _⟩, fun j hj => ⟨fillz (by omega) br j hj, (z1 j hj).2, Nat.zero_le _⟩⟩
  exact run_loop hN 2001 0 _ _ _ _ _ _ _ _ _ _ _ _ _ _ _ _ _ _ _ _ _ _ _ _ _ _ _ _ _ _ _ _ _ _ _ _ _ _ _ _ _ _ _ _ _ _ _ _ _ _ (by omega) (by omega) ⟨⟨rfl, rfl, rfl⟩, ⟨rfl, rfl, rfl, rfl, rfl⟩, ⟨hmw, hmp', hX⟩, hin, hp, hT⟩ rfl hn hr r s hr' hs'
