theorem Tms.up {B B' : Nat} {bM bE bL : Int32} {bu bf br : Nat → Int32} {xM xE xL : Int64} {xu xf xrd : Nat → Int64} (h : Tms B bM bE bL bu bf br xM xE xL xu xf xrd) (hB : B ≤ B') : Tms B' bM bE bL bu bf br xM xE xL xu xf xrd := by
  obtain ⟨M, E, L, TU, Tf, Tr, ⟨a1, a2, a3⟩, ⟨b1, b2, b3⟩, ⟨c1, c2, c3⟩, h1, h2, h3⟩ := h
  exact ⟨M, E, L, TU, Tf, Tr, ⟨a1, a2, by omega⟩, ⟨b1, b2, by omega⟩, ⟨c1, c2, by omega⟩, h1.up hB, h2.up hB, h3.up hB⟩
/-- class and reference inside a run -/
def Inv (B : Nat) (cw : Int32) (cp : Int32) (cs : Int32) (mw : Nat → Int64) (mp : Nat → Int64) (gv : Nat → Int64) (bM : Int32) (bE : Int32) (bL : Int32) (bd : Nat → Int32) (bw : Nat → Int64) (bu : Nat → Int32) (bf : Nat → Int32) (br : Nat → Int32) (xw : Int32) (xp : Int32) (xs : Int32) (xmw : Nat → Int64) (xmp : Nat → Int64) (xr : Nat → Int64) (xM : Int64) (xE : Int64) (xL : Int64) (xd : Nat → Int32) (xwt : Nat → Int64) (xu : Nat → Int64) (xf : Nat → Int64) (xrd : Nat → Int64) : Prop := (cw = xw ∧ cp = xp ∧ cs = xs) ∧ (mw = xmw ∧ mp = xmp ∧ gv = xr ∧ bd = xd ∧ bw = xwt) ∧ (MOk mw ∧ MOk mp ∧ XRg gv) ∧ (cs = 3 → vp_in cw 512) ∧ (∃ p : Nat, p < 4 ∧ cp = nI p) ∧ Tms B bM bE bL bu bf br xM xE xL xu xf xrd
theorem in512 {x : Int32} (h : vp_in x 512) : ∃ w : Nat, w < 512 ∧ x = nI w := by
  obtain ⟨j, h1, rfl⟩ := nI_of (fun q => h (Or.inl q))
  refine ⟨j, ?_, rfl⟩
  have : ¬ 512 ≤ (nI j).toNatClampNeg := fun q => h (Or.inr q)
  rw [nI_clamp h1] at this
  omega
def kb (o i : Nat) : Bool := (decide (o < 8) && (!decide (o = 3) || decide (i < 4))) || decide (o = 38) || (decide (8 ≤ o) && decide (o < 20)) || (decide (o = 30) || decide (o = 31) || decide (o = 35) || decide (o = 39)) || (decide (40 ≤ o) && decide (o < 64))
theorem kin0 : ∀ o, o < 64 → ∀ i, i < 8 → ∀ p, p < 4 → F_X9_isUnknown (nI p) (nI o) (nI i) (nI (Sz o)) = 0 → kb o i = true := by decide +kernel
theorem kin1 {o i : Nat} (h : kb o i = true) : (o < 8 ∧ (¬ o = 3 ∨ i < 4)) ∨ o = 38 ∨ ((8 ≤ o ∧ o < 20) ∨ (o = 30 ∨ o = 31 ∨ o = 35 ∨ o = 39) ∨ (40 ≤ o ∧ o < 64)) := by
  unfold kb at h
  simp only [Bool.or_eq_true, Bool.and_eq_true, decide_eq_true_eq, Bool.not_eq_true', decide_eq_false_iff_not] at h
  omega
theorem kin2 : ∀ o, o < 8 → o = 0 ∨ (¬ F_X1_isJump (nI o) = 0 ∧ ¬ (8 : Int32) ≤ nI o) := by decide +kernel
theorem kin3 : ∀ o, o < 64 → o < 8 ∨ (F_X1_isJump (nI o) = 0 ∧ (8 : Int32) ≤ nI o) := by decide +kernel
theorem kin4 : F_X1_unitOf (nI 38) = (-1 : Int32) := by decide +kernel
theorem kinds {o i p : Nat} (ho : o < 64) (hi : i < 8) (hp : p < 4) (h0 : ¬ o = 0) (hu : F_X9_isUnknown (nI p) (nI o) (nI i) (nI (Sz o)) = 0) : (o < 8 ∧ (o = 3 → i < 4) ∧ ¬ F_X1_isJump (nI o) = 0 ∧ ¬ (8 : Int32) ≤ nI o) ∨ (o = 38 ∧ F_X1_isJump (nI o) = 0 ∧ (8 : Int32) ≤ nI o ∧ F_X1_unitOf (nI o) = (-1 : Int32)) ∨ (Vd o ∧ F_X1_isJump (nI o) = 0 ∧ (8 : Int32) ≤ nI o ∧ ¬ nI o = (38 : Int32)) := by
  rcases kin1 (kin0 o ho i hi p hp hu) with ⟨h1, h2⟩ | h | h
  · obtain ⟨a, b⟩ := (kin2 o h1).resolve_left h0
    exact Or.inl ⟨h1, fun q => h2.resolve_left (fun z => z q), a, b⟩
  · obtain ⟨a, b⟩ := (kin3 o ho).resolve_left (by omega)
    exact Or.inr (Or.inl ⟨h, a, b, by rw [h]; exact kin4⟩)
  · have h8 : 8 ≤ o ∧ ¬ o = 38 := by omega
    obtain ⟨a, b⟩ := (kin3 o ho).resolve_left (by omega)
    exact Or.inr (Or.inr ⟨h, a, b, fun q => h8.2 (nI_inj (b := 38) (by omega) (by omega) q)⟩)
theorem d03 : ¬ (0 : Int32) = 3 := by decide
theorem d13 : ¬ (1 : Int32) = 3 := by decide
theorem d23 : ¬ (2 : Int32) = 3 := by decide
theorem d1_0 : ¬ (1 : Int32) = 0 := by decide
theorem stop_lt {t : Nat} (h : t < 2 ^ 31) : (if nI t < (512 : Int32) then (3 : Int32) else 2) = 3 → vp_in (nI t) 512 := by
  intro e
  by_cases c : nI t < (512 : Int32)
  · exact vp_in_nI ((nI_ltI (b := 512) h (by decide)).mp c) (by decide)
  · rw [if_neg c] at e
    exact absurd e (by decide)
set_option maxRecDepth 8000 in
theorem turn_eq {B : Nat} {cw : Int32} {cp : Int32} {cs : Int32} {mw : Nat → Int64} {mp : Nat → Int64} {gv : Nat → Int64} {bM : Int32} {bE : Int32} {bL : Int32} {bd : Nat → Int32} {bw : Nat → Int64} {bu : Nat → Int32} {bf : Nat → Int32} {br : Nat → Int32} {xw : Int32} {xp : Int32} {xs : Int32} {xmw : Nat → Int64} {xmp : Nat → Int64} {xr : Nat → Int64} {xM : Int64} {xE : Int64} {xL : Int64} {xd : Nat → Int32} {xwt : Nat → Int64} {xu : Nat → Int64} {xf : Nat → Int64} {xrd : Nat → Int64} (hB : B < 2 ^ 20) (h : Inv B cw cp cs mw mp gv bM bE bL bd bw bu bf br xw xp xs xmw xmp xr xM xE xL xd xwt xu xf xrd) (h3 : cs = 3) (ic : Int32) (iu : Int32) (nS : Int32) (nn : Nat → Int32) (rS : Int32) (rr : Nat → Int32) (xo : Int32) (xi : Int32) (xj : Int32) (xk : Int32) (xn : Int32) (xz : Int32) (xa : Int32) (xg : Int32) : ∀ r s, r = F_X8_takeNext cw cp cs mw mp gv bM bE bL bd bw bu bf br ic iu nS nn rS rr → s = F_X9_one xw xp xs xM xE xL xo xi xj xk xn xz xa xg xmw xmp xr xd xwt xf xrd xu → r.1 = s.1 ∧ (r.1 = 0 → ¬ r.2.2.2.1 = 3) ∧ (¬ r.1 = 0 → r.1 = 1) ∧ Inv (B + 20) r.2.1 r.2.2.1 r.2.2.2.1 r.2.2.2.2.1 r.2.2.2.2.2.1 r.2.2.2.2.2.2.1 r.2.2.2.2.2.2.2.1 r.2.2.2.2.2.2.2.2.1 r.2.2.2.2.2.2.2.2.2.1 r.2.2.2.2.2.2.2.2.2.2.1 r.2.2.2.2.2.2.2.2.2.2.2.1 r.2.2.2.2.2.2.2.2.2.2.2.2.1 r.2.2.2.2.2.2.2.2.2.2.2.2.2.1 r.2.2.2.2.2.2.2.2.2.2.2.2.2.2.1 s.2.1 s.2.2.1 s.2.2.2.1 s.2.2.2.2.2.2.2.2.2.2.2.2.2.2.2.1 s.2.2.2.2.2.2.2.2.2.2.2.2.2.2.2.2.1 s.2.2.2.2.2.2.2.2.2.2.2.2.2.2.2.2.2.1 s.2.2.2.2.1 s.2.2.2.2.2.1 s.2.2.2.2.2.2.1 s.2.2.2.2.2.2.2.2.2.2.2.2.2.2.2.2.2.2.1 s.2.2.2.2.2.2.2.2.2.2.2.2.2.2.2.2.2.2.2.1 s.2.2.2.2.2.2.2.2.2.2.2.2.2.2.2.2.2.2.2.2.2.2 s.2.2.2.2.2.2.2.2.2.2.2.2.2.2.2.2.2.2.2.2.1 s.2.2.2.2.2.2.2.2.2.2.2.2.2.2.2.2.2.2.2.2.2.1 := by
  obtain ⟨⟨rfl, rfl, rfl⟩, ⟨rfl, rfl, rfl, rfl, rfl⟩, ⟨hmw, hmp, hX⟩, hin, ⟨p, hp, rfl⟩, hT⟩ := h
  subst h3
  obtain ⟨w, hw, rfl⟩ := in512 (hin rfl)
  obtain ⟨x, hx, ex⟩ := hmp w hw
  have hx' : x < 2 ^ 60 := by unfold O60 at hx; omega
  have cw512 : (nI w).toNatClampNeg = w := nI_clamp (by omega)
  have hlt : nI w < (512 : Int32) := nI_lt (b := 512) hw (by omega)
  have hpw : F_X3_programWord (nI w) mp = lN x := by
    unfold F_X3_programWord F_X3_holds
    rw [if_neg (nI_pos (by omega)), if_neg (Int32.not_le.mpr hlt), if_neg (by decide), cw512, ex]
  obtain ⟨n, hn1, hn2, htk⟩ := take_eq hx' hp (xw := nI w) (f := mp) (by rw [cw512]; exact ex) xn xz
  have hv := pv_lt x p
  have ho : Pv x p / 512 < 64 := by omega
  have hi : Pv x p / 64 % 8 < 8 := Nat.mod_lt _ (by decide)
  have hj : Pv x p / 8 % 8 < 8 := Nat.mod_lt _ (by decide)
  have hk : Pv x p % 8 < 8 := Nat.mod_lt _ (by decide)
  have hc := pn_le x p
  intro r s hr hs
  unfold F_X8_takeNext at hr
  rw [hpw, decode_eq hx' hp] at hr
  unfold F_X9_one at hs
  rw [if_neg (nI_pos (by omega)), if_pos hlt, htk] at hs
  generalize Pn x p = c at hr hn2 hc
  generalize Pv x p / 512 = o at hr hs ho hn2
  generalize Pv x p / 64 % 8 = i at hr hs hi
  generalize Pv x p / 8 % 8 = j at hr hs hj
  generalize Pv x p % 8 = k at hr hs hk
  unfold F_X1_decode_94 F_X5_clear F_X8_takeNext_22 at hr
  unfold F_X9_one_28 F_X9_halt at hs
  dsimp only at hr hs
  rw [stop_eq o ho i hi p hp] at hr
  by_cases o0 : o = 0
  · subst o0
    simp (decide := true) only [if_true, if_false] at hr hs
    rw [hr, hs]
    exact ⟨rfl, fun _ => d03, fun q => absurd rfl q, ⟨rfl, rfl, rfl⟩, ⟨rfl, rfl, rfl, rfl, rfl⟩, ⟨hmw, hmp, hX⟩, fun q => absurd q d03, ⟨p, hp, rfl⟩, hT.up (by omega)⟩
  have n0 : ¬ nI o = 0 := nI_ne0 (by omega) (by omega)
  rw [if_neg o0] at hr
  by_cases un : ¬ F_X9_isUnknown (nI p) (nI o) (nI i) (nI (Sz o)) = 0
  · simp (decide := true) only [if_neg un, if_neg n0, if_true, if_false] at hr hs
    rw [hr, hs]
    exact ⟨rfl, fun _ => d13, fun q => absurd rfl q, ⟨rfl, rfl, rfl⟩, ⟨rfl, rfl, rfl, rfl, rfl⟩, ⟨hmw, hmp, hX⟩, fun q => absurd q d13, ⟨p, hp, rfl⟩, hT.up (by omega)⟩
  replace un := Decidable.not_not.mp un
  rw [if_pos un, if_pos rfl] at hr
  rw [if_neg n0, if_pos un] at hs
  unfold F_X9_one_133 F_X9_halt at hs
  rcases kinds ho hi hp o0 un with ⟨q1, q2, q3, q4⟩ | ⟨q1, q2, q3, q4⟩ | ⟨q1, q2, q3, q4⟩
  · rw [if_neg q3] at hr
    rw [if_neg q4] at hs
    have hsz : Sz o = 2 := by unfold Sz; rw [if_pos (Or.inl ⟨by omega, q1⟩)]
    rw [hn2 hsz] at hs
    obtain ⟨t, q, g1, g2, g3, g4, g5, g6, g7, g8, g9, g10, g11, g12, g13, g14⟩ := jump_eq (k := k) (nS := (F_X1_listNeeds (nI o) (nI i) (nI j) (nI k) (F_X1_unitOf (nI o)) (0 : Int32) nn).1) (nn := (F_X1_listNeeds (nI o) (nI i) (nI j) (nI k) (F_X1_unitOf (nI o)) (0 : Int32) nn).2) (gv := gv) (mw := mw) (mp := mp) (bd := bd) (bw := bw) (nn0 := nn) hB hT (by omega) q1 hi q2 hj hc hw hp hX hmw hmp rfl _ _ rfl rfl
    generalize F_X8_takeJump (nI w) (nI p) (3 : Int32) mw mp gv bM bE bL bd bw bf (nI o) (nI i) (nI j) (nI c) _ _ = RJ at *
    generalize F_X9_jump (nI w) (nI p) xM xE xL (nI o) (nI i) (nI j) (nI c) (nI (Sz o)) mw mp gv bd bw xf = SJ at *
    rw [g4] at hs
    by_cases z : nI t < (512 : Int32)
    · rw [if_pos z] at hs g7
      rw [hr, hs]
      exact ⟨rfl, fun q => absurd q d1_0, fun _ => rfl, ⟨g3, g5.trans g6.symm, g7⟩, ⟨g8, g9, rfl, g13, g14⟩, ⟨g10, g11, hX⟩, fun _ => by rw [g3]; exact vp_in_nI ((nI_ltI (b := 512) g1 (by decide)).mp z) (by decide), ⟨q, g2, g5⟩, g12⟩
    · rw [if_neg z] at hs g7
      rw [hr, hs]
      exact ⟨rfl, fun q => absurd q d1_0, fun _ => rfl, ⟨g3, g5.trans g6.symm, g7⟩, ⟨g8, g9, rfl, g13, g14⟩, ⟨g10, g11, hX⟩, fun e => absurd (g7.symm.trans e) d23, ⟨q, g2, g5⟩, g12⟩
  · rw [if_pos q2] at hr
    rw [if_pos q3, if_pos (show nI o = (38 : Int32) from by rw [q1]; rfl)] at hs
    obtain ⟨t, q, b1, b2, b3, b4⟩ := behind_eq hw hp ho
    rw [b3] at hr
    rw [b4] at hs
    have hap : F_X7_apply (nI o) (nI i) (nI j) (nI k) (nI c) (F_X1_unitOf (nI o)) gv mw = (gv, mw) := by
      rw [q4]
      simp (decide := true) only [F_X7_apply, F_X1_unit, if_true, if_false]
    rw [hap] at hr
    obtain ⟨M, E, L, TU, Tf, Tr, ⟨rfl, rfl, hM⟩, ⟨rfl, rfl, hE⟩, ⟨rfl, rfl, hL⟩, hU, hf, hrr⟩ := hT
    unfold F_X0_giveOut F_X0_giveOut_25 F_X1_unit at hr
    rw [q4] at hr
    simp (decide := true) only [if_true] at hr
    rw [reach_eq (by omega) (by omega), sz_par o ho, nI_add, show Sz o = 1 from by rw [q1]; decide] at hr
    rw [lmax (by omega) (by omega), lN_1] at hs
    have T1 : Tms (B + 20) (nI M) (nI (E + 1)) (nI (max L E)) bu bf br (lN M) (lN (E + 1)) (lN (max L E)) xu xf xrd := ⟨M, E + 1, max L E, TU, Tf, Tr, ⟨rfl, rfl, by omega⟩, ⟨rfl, rfl, by omega⟩, ⟨rfl, rfl, by omega⟩, hU.up (by omega), hf.up (by omega), hrr.up (by omega)⟩
    by_cases z : nI t < (512 : Int32)
    · simp only [if_pos z] at hr hs
      rw [hr, hs]
      exact ⟨rfl, fun q => absurd q d1_0, fun _ => rfl, ⟨rfl, rfl, rfl⟩, ⟨rfl, rfl, rfl, rfl, rfl⟩, ⟨hmw, hmp, hX⟩, fun _ => vp_in_nI ((nI_ltI (b := 512) (by omega) (by decide)).mp z) (by decide), ⟨q, b2, rfl⟩, T1⟩
    · simp only [if_neg z] at hr hs
      rw [hr, hs]
      exact ⟨rfl, fun q => absurd q d1_0, fun _ => rfl, ⟨rfl, rfl, rfl⟩, ⟨rfl, rfl, rfl, rfl, rfl⟩, ⟨hmw, hmp, hX⟩, fun e => absurd e d23, ⟨q, b2, rfl⟩, T1⟩
  · have hV : Vd o := q1
    rw [if_pos q2] at hr
    rw [if_pos q3, if_neg q4] at hs
    obtain ⟨t, q, b1, b2, b3, b4⟩ := behind_eq hw hp ho
    rw [b3, act_eq (n := n) hV hn2 hc hn1 hi hj hk hX] at hr
    rw [b4] at hs
    obtain ⟨P, G, s1, s2, s3, s4⟩ := sets hV hi hj hk nn rr
    obtain ⟨u1, u2, u3⟩ := board_eq (nS := (F_X1_listNeeds (nI o) (nI i) (nI j) (nI k) (F_X1_unitOf (nI o)) (0 : Int32) nn).1) (nn := (F_X1_listNeeds (nI o) (nI i) (nI j) (nI k) (F_X1_unitOf (nI o)) (0 : Int32) nn).2) (rS := (F_X1_listResults (nI o) (nI i) (F_X1_unitOf (nI o)) (0 : Int32) rr).1) (rr := (F_X1_listResults (nI o) (nI i) (F_X1_unitOf (nI o)) (0 : Int32) rr).2) (xa := (F_X9_find (nI o) (nI i) (nI j) (nI k)).1) (xg := (F_X9_find (nI o) (nI i) (nI j) (nI k)).2) (bd := bd) (bw := bw) hB hT hV hi s1 s2 s3 s4 _ _ rfl rfl
    have hX' := hX.act (xo := nI o) (xj := nI j) (xk := nI k) (xn := nI n) (xmw := mw) (r8I hi)
    have hM' := hmw.act (o := o) (j := j) (k := k) (n := n) hX hi
    generalize F_X0_giveOut bM bE bL bd bw bu bf br (nI o) (nI i) (F_X1_unitOf (nI o)) _ _ _ _ = RJ at *
    generalize F_X9_board xM xE xL (nI o) (nI i) (nI (Sz o)) _ _ bd bw xf xrd xu = SJ at *
    generalize F_X9_act (nI o) (nI i) (nI j) (nI k) (nI n) mw gv = AC at *
    by_cases z : nI t < (512 : Int32)
    · simp only [if_pos z] at hr hs
      rw [hr, hs]
      exact ⟨rfl, fun q => absurd q d1_0, fun _ => rfl, ⟨rfl, rfl, rfl⟩, ⟨rfl, rfl, rfl, u2, u3⟩, ⟨hM', hmp, hX'⟩, fun _ => vp_in_nI ((nI_ltI (b := 512) (by omega) (by decide)).mp z) (by decide), ⟨q, b2, rfl⟩, u1⟩
    · simp only [if_neg z] at hr hs
      rw [hr, hs]
      exact ⟨rfl, fun q => absurd q d1_0, fun _ => rfl, ⟨rfl, rfl, rfl⟩, ⟨rfl, rfl, rfl, u2, u3⟩, ⟨hM', hmp, hX'⟩, fun e => absurd e d23, ⟨q, b2, rfl⟩, u1⟩
