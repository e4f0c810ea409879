theorem max_up {G : Nat → Prop} {T : Nat → Nat} {r c m : Nat} (h : IsMax G T 0 r) (h' : IsMax G (fun n => T n + 1) c m) (hc : 1 ≤ c) : m = max c (r + 1) := by
  obtain ⟨h1, h2, h3⟩ := h
  obtain ⟨k1, k2, k3⟩ := h'
  rcases h3 with e | ⟨n, hn, hp, e⟩
  · subst e
    rcases k3 with e | ⟨n, hn, hp, e⟩
    · omega
    · have := h2 n hn hp
      simp only at e
      omega
  · have a := k2 n hn hp
    simp only at a
    rcases k3 with e' | ⟨n', hn', hp', e'⟩
    · omega
    · have := h2 n' hn' hp'
      simp only at e'
      omega
/-- the unit that is taken -/
def Ut (u out : Nat) (TU : Nat → Nat) : Nat := if u = 4 ∧ ¬ TU 4 ≤ out then 5 else u
def Uc (u : Nat) : Nat := if u = 3 then 8 else 3
/-- the cycle from which the unit is free -/
def Uf (u : Nat) (TU : Nat → Nat) : Nat := if u = 4 ∧ ¬ TU 4 ≤ TU 5 then TU 5 else TU u
def En (mem : Bool) (c r M : Nat) : Nat := if mem then max (max c (r + 1)) (M + 1) else max c (r + 1)
theorem board_144 {xo xi xz xa xg : Int32} {xE xL : Int64} {xd : Nat → Int32} {xwt xf xrd xu : Nat → Int64} {P G : Nat → Prop} {Tf Tr : Nat → Nat} {u out nd rm M : Nat} {mem : Bool} (hm : F_X9_isMemory xo xi = 0 ↔ mem = false) (hP : MR P xa) (hG : MR G xg) (hf : ∀ n, n < 24 → xf n = lN (Tf n) ∧ Tf n < 2 ^ 30) (hr : ∀ n, n < 24 → xrd n = lN (Tr n) ∧ Tr n < 2 ^ 30) (hnd : IsMax P Tf 0 nd) (hrm : IsMax G Tr 0 rm) (hnd2 : nd < 2 ^ 30) (hrm2 : rm < 2 ^ 30) (ho : out < 2 ^ 30) (hM : M < 2 ^ 30) (hu : u < 6) : ∃ xf' xrd', F_X9_board_144 xo xi xz xa xg (lN out) (nI u) (lN M) xE xL xd xwt xf xrd xu = F_X9_board_390 xo xi xz (nI u) (lN out) (lN (En mem (max (out + 1) nd + Uc u) rm M)) (lN M) xE xL xd (wt (wt xwt 3 (max (out + 1) nd - (out + 1))) 4 (En mem (max (out + 1) nd + Uc u) rm M - (max (out + 1) nd + Uc u))) xf' xrd' xu ∧ ∀ n, n < 24 → (G n → xf' n = lN (En mem (max (out + 1) nd + Uc u) rm M + 1)) ∧ (¬ G n → xf' n = lN (Tf n)) ∧ (P n → xrd' n = lN (max (Tr n) (max (out + 1) nd))) ∧ (¬ P n → xrd' n = lN (Tr n)) := by
  obtain ⟨m, e1, e2⟩ := free_max hP (xf := xf) (T := Tf) (fun n hn => ⟨(hf n hn).1, by have := (hf n hn).2; omega⟩)
  have em : m = nd := e2.uniq hnd
  subst em
  have key : ∀ cc : Nat, cc < 10 → ∃ xf' xrd', F_X9_board_198 xo xi xz xa xg (nI u) (lN out) (lN (max (out + 1) m)) (lN cc) (lN (max (out + 1) m)) (lN M) xE xL xd (wt xwt 3 (max (out + 1) m - (out + 1))) xf xrd xu = F_X9_board_390 xo xi xz (nI u) (lN out) (lN (En mem (max (out + 1) m + cc) rm M)) (lN M) xE xL xd (wt (wt xwt 3 (max (out + 1) m - (out + 1))) 4 (En mem (max (out + 1) m + cc) rm M - (max (out + 1) m + cc))) xf' xrd' xu ∧ ∀ n, n < 24 → (G n → xf' n = lN (En mem (max (out + 1) m + cc) rm M + 1)) ∧ (¬ G n → xf' n = lN (Tf n)) ∧ (P n → xrd' n = lN (max (Tr n) (max (out + 1) m))) ∧ (¬ P n → xrd' n = lN (Tr n)) := by
    intro cc hcc
    unfold F_X9_board_198
    rw [lN_add]
    obtain ⟨q, e3, e4⟩ := loop208 (xo := xo) (xi := xi) (xz := xz) (xa := xa) (v1 := nI u) (v4 := lN out) (v8 := lN (max (out + 1) m)) (v10 := lN (max (out + 1) m + cc)) (xM := lN M) (xE := xE) (xL := xL) (xd := xd) (xwt := wt xwt 3 (max (out + 1) m - (out + 1))) (xf := xf) (xrd := xrd) (xu := xu) hG hr 25 0 (max (out + 1) m + cc) (by omega) (by omega) (by omega) ((IsMax.nil _ _).to fun n _ => ⟨fun h => h.elim, fun h => by omega⟩)
    have eq := max_up hrm e4 (by omega)
    subst eq
    rw [show (0 : Int32) = nI 0 from rfl, e3]
    have fin : ∀ en : Nat, max (out + 1) m + cc ≤ en → en < 2 ^ 31 → ∃ xf' xrd', F_X9_board_278 xo xi xz xa xg (nI u) (lN out) (lN (max (out + 1) m)) (lN (max (out + 1) m + cc)) (lN en) (lN M) xE xL xd (wt xwt 3 (max (out + 1) m - (out + 1))) xf xrd xu = F_X9_board_390 xo xi xz (nI u) (lN out) (lN en) (lN M) xE xL xd (wt (wt xwt 3 (max (out + 1) m - (out + 1))) 4 (en - (max (out + 1) m + cc))) xf' xrd' xu ∧ ∀ n, n < 24 → (G n → xf' n = lN (en + 1)) ∧ (¬ G n → xf' n = lN (Tf n)) ∧ (P n → xrd' n = lN (max (Tr n) (max (out + 1) m))) ∧ (¬ P n → xrd' n = lN (Tr n)) := by
      intro en h1 h2
      unfold F_X9_board_278
      obtain ⟨xf', xrd', g1, g2⟩ := loop301 (xo := xo) (xi := xi) (xz := xz) (v1 := nI u) (v4 := lN out) (v8 := lN (max (out + 1) m)) (v12 := lN en) (xM := lN M) (xE := xE) (xL := xL) (xd := xd) (xwt := wt (wt xwt 3 (max (out + 1) m - (out + 1))) 4 (en - (max (out + 1) m + cc))) (xu := xu) (f0 := xf) (r0 := xrd) hP hG 25 0 xf xrd (by omega) (by omega) (fun n hn => ⟨fun q => by omega, fun _ => ⟨rfl, rfl⟩⟩)
      refine ⟨xf', xrd', ?_, fun n hn => ?_⟩
      · rw [← g1, cl4, add_sub _ h1, show (0 : Int32) = nI 0 from rfl]
        rfl
      · obtain ⟨a, b, c, d⟩ := g2 n hn
        have hr1 := hr n hn
        refine ⟨fun x => by rw [a x, lN_1], fun x => by rw [b x]; exact (hf n hn).1, fun x => by rw [c x, hr1.1, lmax (by omega) (by omega)], fun x => by rw [d x]; exact hr1.1⟩
    unfold F_X9_board_255
    cases mem with
    | false =>
      rw [if_pos (hm.mpr rfl)]
      exact fin _ (by omega) (by omega)
    | true =>
      rw [if_neg (fun x => by have := hm.mp x; simp at this), lN_1, lmax (by omega) (by omega)]
      exact fin _ (by omega) (by omega)
  unfold F_X9_board_144
  rw [e1, lN_1, lmax (by omega) (by omega)]
  have ew : vp_updL xwt (3 : Int32).toNatClampNeg (xwt (3 : Int32).toNatClampNeg + lN (max (out + 1) m) - lN out - 1) = wt xwt 3 (max (out + 1) m - (out + 1)) := by
    rw [cl3, add_sub _ (by omega), show (1 : Int64) = lN 1 from rfl, add_sub _ (by omega), Nat.sub_sub]
    rfl
  rw [ew]
  by_cases c : u = 3
  · subst c
    rw [if_pos (show nI 3 = (3 : Int32) from rfl)]
    exact key 8 (by omega)
  · rw [if_neg (show ¬ nI u = (3 : Int32) from fun x => c (nI_inj (b := 3) (by omega) (by omega) x))]
    have := key 3 (by omega)
    rw [show Uc u = 3 from if_neg c]
    exact this
theorem board_41 {xo xi xz xa xg : Int32} {xL : Int64} {xd : Nat → Int32} {xwt xf xrd xu : Nat → Int64} {P G : Nat → Prop} {Tf Tr TU : Nat → Nat} {u uf E g nd rm M : Nat} {mem : Bool} (hm : F_X9_isMemory xo xi = 0 ↔ mem = false) (hP : MR P xa) (hG : MR G xg) (hf : ∀ n, n < 24 → xf n = lN (Tf n) ∧ Tf n < 2 ^ 30) (hr : ∀ n, n < 24 → xrd n = lN (Tr n) ∧ Tr n < 2 ^ 30) (hg : IsMax G Tf 0 g) (hnd : IsMax P Tf 0 nd) (hrm : IsMax G Tr 0 rm) (hg2 : g < 2 ^ 29) (hnd2 : nd < 2 ^ 30) (hrm2 : rm < 2 ^ 30) (hE : E < 2 ^ 29) (huf : uf < 2 ^ 29) (hM : M < 2 ^ 30) (hu : u < 5) (h4 : xu 4 = lN (TU 4) ∧ TU 4 < 2 ^ 30) : ∃ xf' xrd', F_X9_board_41 xo xi xz xa xg (nI u) (lN uf) (lN M) (lN E) xL xd xwt xf xrd xu = F_X9_board_390 xo xi xz (nI (Ut u (max (max E uf) g) TU)) (lN (max (max E uf) g)) (lN (En mem (max (max (max E uf) g + 1) nd + Uc (Ut u (max (max E uf) g) TU)) rm M)) (lN M) (lN E) xL xd (wt (wt (wt (wt xwt 0 (max E uf - E)) 1 (max (max E uf) g - max E uf)) 3 (max (max (max E uf) g + 1) nd - (max (max E uf) g + 1))) 4 (En mem (max (max (max E uf) g + 1) nd + Uc (Ut u (max (max E uf) g) TU)) rm M - (max (max (max E uf) g + 1) nd + Uc (Ut u (max (max E uf) g) TU)))) xf' xrd' xu ∧ ∀ n, n < 24 → (G n → xf' n = lN (En mem (max (max (max E uf) g + 1) nd + Uc (Ut u (max (max E uf) g) TU)) rm M + 1)) ∧ (¬ G n → xf' n = lN (Tf n)) ∧ (P n → xrd' n = lN (max (Tr n) (max (max (max E uf) g + 1) nd))) ∧ (¬ P n → xrd' n = lN (Tr n)) := by
  obtain ⟨m, e1, e2⟩ := free_max hG (xf := xf) (T := Tf) (fun n hn => ⟨(hf n hn).1, by have := (hf n hn).2; omega⟩)
  have em : m = g := e2.uniq hg
  subst em
  have eo : F_X9_later (lN E) (F_X9_later (lN uf) (lN m)) = lN (max (max E uf) m) := by
    rw [lmax (by omega) (by omega), lmax (by omega) (by omega), Nat.max_assoc]
  have hle : max E uf ≤ max (max E uf) m := Nat.le_max_left _ _
  have hlt : max (max E uf) m < 2 ^ 30 := by omega
  have e82 : ∀ t0 : Int64, t0 = lN (max E uf - E) → F_X9_board_82 xo xi xz xa xg (nI u) (lN (max (max E uf) m)) t0 (lN M) (lN E) xL xd xwt xf xrd xu = F_X9_board_144 xo xi xz xa xg (lN (max (max E uf) m)) (nI (Ut u (max (max E uf) m) TU)) (lN M) (lN E) xL xd (wt (wt xwt 0 (max E uf - E)) 1 (max (max E uf) m - max E uf)) xf xrd xu := by
    intro t0 ht
    subst ht
    unfold F_X9_board_82 F_X9_board_143
    have ew : ∀ f : Nat → Int64, vp_updL f (1 : Int32).toNatClampNeg (f (1 : Int32).toNatClampNeg + lN (max (max E uf) m) - lN E - lN (max E uf - E)) = wt f 1 (max (max E uf) m - max E uf) := by
      intro f
      rw [cl1, add_sub _ (by omega), add_sub _ (by omega), show max (max E uf) m - E - (max E uf - E) = max (max E uf) m - max E uf by omega]
      rfl
    rw [ew]
    have ew0 : vp_updL xwt (0 : Int32).toNatClampNeg (xwt (0 : Int32).toNatClampNeg + lN (max E uf - E)) = wt xwt 0 (max E uf - E) := by rw [cl0]; rfl
    rw [ew0, cl4, h4.1]
    unfold Ut
    by_cases c : u = 4
    · subst c
      rw [if_pos (show nI 4 = (4 : Int32) from rfl)]
      by_cases d : TU 4 ≤ max (max E uf) m
      · rw [if_pos ((pk_lLE (by omega) (by omega)).mpr d), if_neg (fun x => x.2 d)]
      · rw [if_neg (fun x => d ((pk_lLE (by omega) (by omega)).mp x)), if_pos ⟨rfl, d⟩]
        rfl
    · rw [if_neg (show ¬ nI u = (4 : Int32) from fun x => c (nI_inj (b := 4) (by omega) (by omega) x)), if_neg (fun x => c x.1)]
  have hu6 : Ut u (max (max E uf) m) TU < 6 := by unfold Ut; split <;> omega
  unfold F_X9_board_41
  rw [e1, eo]
  have main := board_144 (xz := xz) (xE := lN E) (xL := xL) (xd := xd) (xwt := wt (wt xwt 0 (max E uf - E)) 1 (max (max E uf) m - max E uf)) (xu := xu) hm hP hG hf hr hnd hrm hnd2 hrm2 hlt hM hu6
  by_cases c : uf ≤ E
  · rw [if_pos ((pk_lLE (by omega) (by omega)).mpr c), e82 _ (by rw [show max E uf - E = 0 by omega]; rfl)]
    exact main
  · rw [if_neg (fun x => c ((pk_lLE (by omega) (by omega)).mp x)), e82 _ (by rw [lN_sub (by omega)]; congr 1; omega)]
    exact main
theorem board_top {xi xz xa xg : Int32} {o : Nat} {xM xE xL : Int64} {xd : Nat → Int32} {xwt xf xrd xu : Nat → Int64} {TU : Nat → Nat} (ho : Vd o) (hu : ∀ n, n < 6 → xu n = lN (TU n) ∧ TU n < 2 ^ 30) : F_X9_board xM xE xL (nI o) xi xz xa xg xd xwt xf xrd xu = F_X9_board_41 (nI o) xi xz xa xg (nI (Un o)) (lN (Uf (Un o) TU)) xM xE xL xd xwt xf xrd xu := by
  obtain ⟨_, h2, h3⟩ := ho.un
  unfold F_X9_board F_X9_board_35 Uf
  rw [h2]
  have u4 := hu 4 (by omega)
  have u5 := hu 5 (by omega)
  have uu := hu (Un o) (by omega)
  by_cases c : Un o = 4
  · rw [c, if_pos (show nI 4 = (4 : Int32) from rfl), cl4, cl5, u4.1, u5.1]
    by_cases d : TU 4 ≤ TU 5
    · rw [if_pos ((pk_lLE (by omega) (by omega)).mpr d), if_neg (fun x => x.2 d), nI_clamp (by omega), u4.1]
    · rw [if_neg (fun x => d ((pk_lLE (by omega) (by omega)).mp x)), if_pos ⟨rfl, d⟩]
  · rw [if_neg (show ¬ nI (Un o) = (4 : Int32) from fun x => c (nI_inj (b := 4) (by omega) (by omega) x)), if_neg (fun x => c x.1), nI_clamp (by omega), uu.1]
