theorem given_eq {bw : Nat → Int64} {bu bf : Nat → Int32} {rS : Int32} {rr : Nat → Int32} {G : Nat → Prop} {Tf TU : Nat → Nat} {E u g : Nat} (hG : LR G 3 (rS, rr)) (hf : ∀ n, n < 24 → bf n = nI (Tf n) ∧ Tf n < 2 ^ 31) (hU : ∀ n, n < 6 → bu n = nI (TU n) ∧ TU n < 2 ^ 29) (hg : IsMax G Tf 0 g) (hE : E < 2 ^ 29) (hg2 : g < 2 ^ 29) (hu : u < 5) : F_X0_givenOutAt (nI E) bw bu bf (nI u) rS rr = (nI (max (max E (Uf u TU)) g), wt (wt bw 0 (max E (Uf u TU) - E)) 1 (max (max E (Uf u TU)) g - max E (Uf u TU))) := by
  obtain ⟨m, e1, e2⟩ := latest_max hG hf
  have em : m = g := e2.uniq hg
  subst em
  have u4 := hU 4 (by omega)
  have u5 := hU 5 (by omega)
  have uu := hU u (by omega)
  have hUf : Uf u TU < 2 ^ 29 := by unfold Uf; split <;> omega
  have k28 : F_X0_givenOutAt_28 (nI E) bf rS rr (nI (Uf u TU)) bw = (nI (max (max E (Uf u TU)) m), wt (wt bw 0 (max E (Uf u TU) - E)) 1 (max (max E (Uf u TU)) m - max E (Uf u TU))) := by
    unfold F_X0_givenOutAt_28
    rw [e1, wait_eq (by omega) (by omega), wait_eq (by omega) (by omega), cl0, cl1]
  unfold F_X0_givenOutAt F_X1_unit
  rw [← k28]
  unfold Uf
  by_cases c : u = 4
  · subst c
    rw [if_pos (show nI 4 = (4 : Int32) from rfl), cl5, show (nI 4).toNatClampNeg = 4 from cl4, u4.1, u5.1]
    by_cases d : TU 4 ≤ TU 5
    · rw [if_neg (nI_nlt d (by omega)), if_neg (fun x => x.2 d)]
    · rw [if_pos (nI_lt (by omega) (by omega)), if_pos ⟨rfl, d⟩]
  · rw [if_neg (show ¬ nI u = (4 : Int32) from fun x => c (nI_inj (b := 4) (by omega) (by omega) x)), if_neg (fun x => c x.1), nI_clamp (by omega), uu.1]
theorem free_at {bu : Nat → Int32} {TU : Nat → Nat} {u out : Nat} (h4 : bu 4 = nI (TU 4) ∧ TU 4 < 2 ^ 31) (ho : out < 2 ^ 31) (hu : u < 5) : F_X0_unitFreeAt (nI u) (nI out) bu = nI (Ut u out TU) := by
  unfold F_X0_unitFreeAt F_X0_unitFreeAt_19 F_X0_unitFreeAt_20 Ut
  by_cases c : u = 4
  · subst c
    rw [if_pos (show nI 4 = (4 : Int32) from rfl), cl4, h4.1]
    by_cases d : TU 4 ≤ out
    · rw [if_pos (nI_le d ho), if_pos rfl, if_neg (fun x => x.2 d)]
    · rw [if_neg (nI_ge (by omega) (by omega)), if_neg (by decide), if_pos ⟨rfl, d⟩]
      rfl
  · rw [if_neg (show ¬ nI u = (4 : Int32) from fun x => c (nI_inj (b := 4) (by omega) (by omega) x)), if_pos rfl, if_neg (fun x => c x.1)]
theorem uc_eq (u : Nat) : uc u = nI (Uc u) := by
  unfold uc Uc
  split <;> rfl
/-- the class's unit is taken: the cycle of the end, and what is kept of it -/
theorem occ_eq {bL : Int32} {bd : Nat → Int32} {bw : Nat → Int64} {bu bf br : Nat → Int32} {iop ii nS rS : Int32} {nn rr : Nat → Int32} {P G : Nat → Prop} {Tf Tr TU : Nat → Nat} {u out nd rm M L : Nat} {mem : Bool} (hm : mem = false ↔ F_X1_loads iop ii = 0 ∧ F_X1_stores iop ii = 0) (hP : LR P 3 (nS, nn)) (hG : LR G 3 (rS, rr)) (hf : ∀ n, n < 24 → bf n = nI (Tf n) ∧ Tf n < 2 ^ 30) (hr : ∀ n, n < 24 → br n = nI (Tr n) ∧ Tr n < 2 ^ 30) (h4 : bu 4 = nI (TU 4) ∧ TU 4 < 2 ^ 31) (hnd : IsMax P Tf 0 nd) (hrm : IsMax G Tr 0 rm) (hnd2 : nd < 2 ^ 29) (hrm2 : rm < 2 ^ 29) (ho : out < 2 ^ 29) (hM : M < 2 ^ 29) (hL : L < 2 ^ 30) (hu : u < 5) : F_X0_occupyUnit (nI out) (nI M) (nI L) bd bw bu bf br iop ii (nI u) nS nn rS rr = F_X0_occupyUnit_120 iop ii (nI (En mem (max (out + 1) nd + Uc (Ut u out TU)) rm M)) (if mem then nI (En mem (max (out + 1) nd + Uc (Ut u out TU)) rm M) else nI M) (nI (max L (En mem (max (out + 1) nd + Uc (Ut u out TU)) rm M))) (upd bd (Ut u out TU) (bd (Ut u out TU) + 1)) (wt (wt bw 3 (max (out + 1) nd - (out + 1))) 4 (En mem (max (out + 1) nd + Uc (Ut u out TU)) rm M - (max (out + 1) nd + Uc (Ut u out TU)))) (upd bu (Ut u out TU) (nI (En mem (max (out + 1) nd + Uc (Ut u out TU)) rm M + 1))) (F_X5_raiseIn (nI (En mem (max (out + 1) nd + Uc (Ut u out TU)) rm M + 1)) rS rr bf) (F_X5_raiseIn (nI (max (out + 1) nd)) nS nn br) := by
  obtain ⟨m, e1, e2⟩ := latest_max hP (qf := bf) (T := Tf) (fun n hn => ⟨(hf n hn).1, by have := (hf n hn).2; omega⟩)
  have em : m = nd := e2.uniq hnd
  subst em
  obtain ⟨q, e3, e4⟩ := latest_max hG (qf := br) (T := Tr) (fun n hn => ⟨(hr n hn).1, by have := (hr n hn).2; omega⟩)
  have eq : q = rm := e4.uniq hrm
  subst eq
  have hUt : Ut u out TU < 6 := by unfold Ut; split <;> omega
  have hUc : Uc (Ut u out TU) ≤ 8 := by unfold Uc; split <;> omega
  have hF := free_at (bu := bu) (TU := TU) h4 (show out < 2 ^ 31 by omega) hu
  have hw : F_X0_waitFor (nI out + 1) (F_X5_latestIn nS nn bf) (3 : Int32) bw = (nI (max (out + 1) m), wt bw 3 (max (out + 1) m - (out + 1))) := by
    rw [e1, nI_1, wait_eq (by omega) (by omega), cl3]
  have hend : F_X0_endsAt (nI (max (out + 1) m + Uc (Ut u out TU))) (nI M) (wt bw 3 (max (out + 1) m - (out + 1))) br iop ii rS rr = (nI (En mem (max (out + 1) m + Uc (Ut u out TU)) q M), wt (wt bw 3 (max (out + 1) m - (out + 1))) 4 (En mem (max (out + 1) m + Uc (Ut u out TU)) q M - (max (out + 1) m + Uc (Ut u out TU)))) := by
    unfold F_X0_endsAt F_X0_endsAt_28 F_X0_endsAt_39
    rw [e3, nI_1, nI_1, imax (by omega) (by omega)]
    rw [wait_eq (by omega) (by omega), wait_eq (by omega) (by omega), cl4]
    have ea : max (max (out + 1) m + Uc (Ut u out TU)) (max (q + 1) (M + 1)) = max (max (max (out + 1) m + Uc (Ut u out TU)) (q + 1)) (M + 1) := (Nat.max_assoc _ _ _).symm
    cases mem with
    | false =>
      obtain ⟨a, b⟩ := hm.mp rfl
      rw [if_pos a, if_pos b]
      rfl
    | true =>
      rw [ea]
      by_cases a : F_X1_loads iop ii = 0
      · have b : ¬ F_X1_stores iop ii = 0 := fun x => by have := hm.mpr ⟨a, x⟩; simp at this
        rw [if_pos a, if_neg b]
        rfl
      · rw [if_neg a]
        rfl
  have hE : En mem (max (out + 1) m + Uc (Ut u out TU)) q M < 2 ^ 30 := by unfold En; split <;> omega
  unfold F_X0_occupyUnit F_X0_occupyUnit_114 F_X1_unit
  rw [hw, hF]
  simp only
  rw [nI_clamp (by omega), uc_eq, nI_add, hend]
  simp only
  rw [nI_1, reach_eq (by omega) (by omega)]
  cases mem with
  | false =>
    obtain ⟨a, b⟩ := hm.mp rfl
    rw [if_pos a, if_pos b]
    rfl
  | true =>
    by_cases a : F_X1_loads iop ii = 0
    · have b : ¬ F_X1_stores iop ii = 0 := fun x => by have := hm.mpr ⟨a, x⟩; simp at this
      rw [if_pos a, if_neg b]
      rfl
    · rw [if_neg a]
      rfl
/-- the cycles of the board, in the class and in the reference -/
def Tms (B : Nat) (bM bE bL : Int32) (bu bf br : Nat → Int32) (xM xE xL : Int64) (xu xf xrd : Nat → Int64) : Prop := ∃ (M E L : Nat) (TU Tf Tr : Nat → Nat), (bM = nI M ∧ xM = lN M ∧ M ≤ B) ∧ (bE = nI E ∧ xE = lN E ∧ E ≤ B) ∧ (bL = nI L ∧ xL = lN L ∧ L ≤ B) ∧ TF 6 B TU bu xu ∧ TF 24 B Tf bf xf ∧ TF 24 B Tr br xrd
theorem TF.put {N B B' : Nat} {T : Nat → Nat} {f : Nat → Int32} {g : Nat → Int64} (h : TF N B T f g) {q v : Nat} (hB : B ≤ B') (hv : v ≤ B') : TF N B' (fun n => if n = q then v else T n) (upd f q (nI v)) (vp_updL g q (lN v)) := by
  intro n hn
  obtain ⟨a, b, c⟩ := h n hn
  by_cases e : n = q
  · simp [upd, vp_updL, e, hv]
  · simp [upd, vp_updL, e, a, b]
    omega
theorem TF.up {N B B' : Nat} {T : Nat → Nat} {f : Nat → Int32} {g : Nat → Int64} (h : TF N B T f g) (hB : B ≤ B') : TF N B' T f g := fun n hn => ⟨(h n hn).1, (h n hn).2.1, by have := (h n hn).2.2; omega⟩
theorem board_eq {B o i : Nat} {bM bE bL : Int32} {bu bf br : Nat → Int32} {xM xE xL : Int64} {xu xf xrd : Nat → Int64} {nS rS : Int32} {nn rr : Nat → Int32} {xa xg : Int32} {P G : Nat → Prop} {bd : Nat → Int32} {bw : Nat → Int64} (hB : B < 2 ^ 20) (hT : Tms B bM bE bL bu bf br xM xE xL xu xf xrd) (ho : Vd o) (hi : i < 8) (hP : LR P 3 (nS, nn)) (mP : MR P xa) (hG : LR G 3 (rS, rr)) (mG : MR G xg) : ∀ r s, r = F_X0_giveOut bM bE bL bd bw bu bf br (nI o) (nI i) (F_X1_unitOf (nI o)) nS nn rS rr → s = F_X9_board xM xE xL (nI o) (nI i) (nI (Sz o)) xa xg bd bw xf xrd xu → Tms (B + 20) r.1 r.2.1 r.2.2.1 r.2.2.2.2.2.1 r.2.2.2.2.2.2.1 r.2.2.2.2.2.2.2 s.1 s.2.1 s.2.2.1 s.2.2.2.2.2.2.2 s.2.2.2.2.2.1 s.2.2.2.2.2.2.1 ∧ r.2.2.2.1 = s.2.2.2.1 ∧ r.2.2.2.2.1 = s.2.2.2.2.1 := by
  obtain ⟨M, E, L, TU, Tf, Tr, ⟨rfl, rfl, hM⟩, ⟨rfl, rfl, hE⟩, ⟨rfl, rfl, hL⟩, hU, hf, hr⟩ := hT
  obtain ⟨u1, _, u3⟩ := ho.un
  obtain ⟨g, g1, g2⟩ := latest_max hG (qf := bf) (T := Tf) (hf.i (by omega))
  obtain ⟨nd, n1, n2⟩ := latest_max hP (qf := bf) (T := Tf) (hf.i (by omega))
  obtain ⟨rm, r1, r2⟩ := latest_max hG (qf := br) (T := Tr) (hr.i (by omega))
  have hg : g ≤ B := g2.le (by omega) fun n hn => (hf n hn).2.2
  have hnd : nd ≤ B := n2.le (by omega) fun n hn => (hf n hn).2.2
  have hrm : rm ≤ B := r2.le (by omega) fun n hn => (hr n hn).2.2
  have hUn : ∀ n, n < 6 → TU n ≤ B := fun n hn => (hU n hn).2.2
  have huf : Uf (Un o) TU ≤ B := by
    unfold Uf
    split
    · exact hUn 5 (by omega)
    · exact hUn _ (by omega)
  have h4 := hU 4 (by omega)
  intro r s hr' hs'
  have hxu : ∀ n, n < 6 → xu n = lN (TU n) ∧ TU n < 2 ^ 30 := fun n hn => ⟨(hU n hn).2.1, by have := hUn n hn; omega⟩
  have hxf : ∀ n, n < 24 → xf n = lN (Tf n) ∧ Tf n < 2 ^ 30 := fun n hn => ⟨(hf n hn).2.1, by have := (hf n hn).2.2; omega⟩
  have hxr : ∀ n, n < 24 → xrd n = lN (Tr n) ∧ Tr n < 2 ^ 30 := fun n hn => ⟨(hr n hn).2.1, by have := (hr n hn).2.2; omega⟩
  have hbf : ∀ n, n < 24 → bf n = nI (Tf n) ∧ Tf n < 2 ^ 30 := fun n hn => ⟨(hf n hn).1, by have := (hf n hn).2.2; omega⟩
  have hbr : ∀ n, n < 24 → br n = nI (Tr n) ∧ Tr n < 2 ^ 30 := fun n hn => ⟨(hr n hn).1, by have := (hr n hn).2.2; omega⟩
  have hbu : ∀ n, n < 6 → bu n = nI (TU n) ∧ TU n < 2 ^ 29 := fun n hn => ⟨(hU n hn).1, by have := hUn n hn; omega⟩
  have hmem : ∃ mem : Bool, (F_X9_isMemory (nI o) (nI i) = 0 ↔ mem = false) ∧ (mem = false ↔ F_X1_loads (nI o) (nI i) = 0 ∧ F_X1_stores (nI o) (nI i) = 0) := by
    rcases mem3 o ho.lt i hi with ⟨a, b, c⟩ | ⟨a, b, c, d⟩ | ⟨a, b, c⟩
    · exact ⟨false, by simp [a], by simp [b, c]⟩
    · exact ⟨true, by simp [a], by simp [b, c]⟩
    · exact ⟨true, by simp [a], by simp [b]⟩
  obtain ⟨mem, m1, m2⟩ := hmem
  obtain ⟨xf', xrd', b1, b2⟩ := board_41 (xz := nI (Sz o)) (xL := lN L) (xd := bd) (xwt := bw) (xf := xf) (xrd := xrd) (xu := xu) (Tf := Tf) (Tr := Tr) (TU := TU) (u := Un o) (uf := Uf (Un o) TU) (E := E) (M := M) m1 mP mG hxf hxr g2 n2 r2 (by omega) (by omega) (by omega) (by omega) (by omega) (by omega) u3 (hxu 4 (by omega))
  rw [board_top ho hxu, b1] at hs'
  have hgv := given_eq (bw := bw) (bu := bu) (E := E) hG (hf.i (by omega)) hbu g2 (by omega) (by omega) u3
  have hout : max (max E (Uf (Un o) TU)) g ≤ B := by omega
  have hgo : g ≤ max (max E (Uf (Un o) TU)) g := by omega
  generalize eo : max (max E (Uf (Un o) TU)) g = out at hs' hgv hout b2 hgo
  have hoc := occ_eq (bL := nI L) (bd := bd) (bw := wt (wt bw 0 (max E (Uf (Un o) TU) - E)) 1 (out - max E (Uf (Un o) TU))) (bu := bu) (TU := TU) (u := Un o) (out := out) (M := M) (L := L) m2 hP hG hbf hbr ⟨h4.1, by have := h4.2.2; omega⟩ n2 r2 (by omega) (by omega) (by omega) (by omega) (by omega) u3
  have hUc : Uc (Ut (Un o) out TU) ≤ 8 := by unfold Uc; split <;> omega
  have hen : En mem (max (out + 1) nd + Uc (Ut (Un o) out TU)) rm M ≤ B + 9 := by unfold En; split <;> omega
  have hen2 : out + 1 < En mem (max (out + 1) nd + Uc (Ut (Un o) out TU)) rm M := by
    have : 3 ≤ Uc (Ut (Un o) out TU) := by unfold Uc; split <;> omega
    unfold En; split <;> omega
  generalize een : En mem (max (out + 1) nd + Uc (Ut (Un o) out TU)) rm M = en at hs' hoc hen b2 hen2
  have hrd : max (out + 1) nd ≤ B + 1 := by omega
  have hUt6 : Ut (Un o) out TU < 6 := by unfold Ut; split <;> omega
  have hsz := sz_two o ho.lt
  have t1 := raise_max (v := en + 1) hG (by omega) (hf.i (by omega))
  have t2 := raise_max (v := max (out + 1) nd) hP (by omega) (hr.i (by omega))
  haveI dG : ∀ n, Decidable (G n) := fun n => Classical.propDecidable _
  haveI dP : ∀ n, Decidable (P n) := fun n => Classical.propDecidable _
  have F1 : TF 24 (B + 20) (fun n => if G n then en + 1 else Tf n) (F_X5_raiseIn (nI (en + 1)) rS rr bf) xf' := by
    intro n hn
    obtain ⟨a, b, _, _⟩ := b2 n hn
    obtain ⟨c, d⟩ := t1 n hn
    have hb := (hf n hn).2.2
    by_cases x : G n
    · have hle := g2.2.1 n hn x
      have e := d x
      rw [show max (Tf n) (en + 1) = en + 1 by omega] at e
      refine ⟨?_, ?_, ?_⟩
      · simp only [if_pos x]; exact e
      · simp only [if_pos x]; exact a x
      · simp only [if_pos x]; omega
    · refine ⟨?_, ?_, ?_⟩
      · simp only [if_neg x]; exact c x
      · simp only [if_neg x]; exact b x
      · simp only [if_neg x]; omega
  have R1 : TF 24 (B + 20) (fun n => if P n then max (Tr n) (max (out + 1) nd) else Tr n) (F_X5_raiseIn (nI (max (out + 1) nd)) nS nn br) xrd' := by
    intro n hn
    obtain ⟨_, _, a, b⟩ := b2 n hn
    obtain ⟨c, d⟩ := t2 n hn
    have hb := (hr n hn).2.2
    by_cases x : P n
    · refine ⟨?_, ?_, ?_⟩
      · simp only [if_pos x]; exact d x
      · simp only [if_pos x]; exact a x
      · simp only [if_pos x]; omega
    · refine ⟨?_, ?_, ?_⟩
      · simp only [if_neg x]; exact c x
      · simp only [if_neg x]; exact b x
      · simp only [if_neg x]; omega
  have U1 := hU.put (q := Ut (Un o) out TU) (v := en + 1) (B' := B + 20) (by omega) (by omega)
  unfold F_X0_giveOut F_X0_giveOut_25 F_X1_unit at hr'
  rw [u1, if_neg (show ¬ nI (Un o) = (-1 : Int32) from by rcases (show Un o = 0 ∨ Un o = 1 ∨ Un o = 2 ∨ Un o = 3 ∨ Un o = 4 by omega) with e | e | e | e | e <;> rw [e] <;> decide), hgv] at hr'
  simp only at hr'
  rw [hoc, sz_par o ho.lt, nI_add] at hr'
  have hL1 : nI (max (max L en) out) = nI (max L en) := by rw [show max (max L en) out = max L en by omega]
  have hL2 : nI (max (max (max L en) (en + 5)) out) = nI (max (max L en) (en + 5)) := by rw [show max (max (max L en) (en + 5)) out = max (max L en) (en + 5) by omega]
  have h6 : (nI i).toNatClampNeg = i := nI_clamp (by omega)
  have hUl : (nI (Ut (Un o) out TU)).toNatClampNeg = Ut (Un o) out TU := nI_clamp (by omega)
  unfold F_X0_occupyUnit_120 F_X1_i at hr'
  unfold F_X9_board_390 F_X9_board_457 at hs'
  rw [hUl, nI_l (by omega), lN_add, lN_1, lmax (by omega) (by omega)] at hs'
  rcases mem3 o ho.lt i hi with ⟨a, b, c⟩ | ⟨a, b, c, d⟩ | ⟨a, b, c⟩
  · have hmf : mem = false := m1.mp a
    rw [if_pos b, if_neg (by rw [hmf]; decide), reach_eq (by omega) (by omega)] at hr'
    rw [if_pos a] at hs'
    rw [hr', hs']
    exact ⟨⟨M, out + Sz o, max L en, _, _, _, ⟨rfl, rfl, by omega⟩, ⟨rfl, rfl, by omega⟩, ⟨hL1, rfl, by omega⟩, U1, F1, R1⟩, rfl, rfl⟩
  · have hmt : mem = true := by cases mem with | true => rfl | false => have := m1.mpr rfl; rw [a] at this; exact absurd this (by decide)
    rw [if_pos b, if_pos hmt, reach_eq (by omega) (by omega)] at hr'
    rw [if_neg (by rw [a]; decide), if_pos d] at hs'
    rw [hr', hs']
    exact ⟨⟨en, out + Sz o, max L en, _, _, _, ⟨rfl, rfl, by omega⟩, ⟨rfl, rfl, by omega⟩, ⟨hL1, rfl, by omega⟩, U1, F1, R1⟩, rfl, rfl⟩
  · have hmt : mem = true := by cases mem with | true => rfl | false => have := m1.mpr rfl; rw [a] at this; exact absurd this (by decide)
    have hF2 := F1.put (q := i) (v := en + 6) (B' := B + 20) (by omega) (by omega)
    rw [if_neg (by rw [b]; decide), if_pos hmt, h6, show (5 : Int32) = nI 5 from rfl, nI_add, nI_1, reach_eq (by omega) (by omega)] at hr'
    simp only at hr'
    rw [reach_eq (by omega) (by omega)] at hr'
    rw [if_neg (by rw [a]; decide), if_neg c, h6, show (5 : Int64) = lN 5 from rfl, show (6 : Int64) = lN 6 from rfl, lN_add, lN_add, lmax (by omega) (by omega)] at hs'
    rw [hr', hs']
    exact ⟨⟨en, out + Sz o, max (max L en) (en + 5), _, _, _, ⟨rfl, rfl, by omega⟩, ⟨rfl, rfl, by omega⟩, ⟨hL2, rfl, by omega⟩, U1, hF2, R1⟩, rfl, rfl⟩
