def Un (o : Nat) : Nat := if o < 16 then 0 else if o < 20 ∨ o = 35 then 1 else if o < 32 then 2 else if o = 39 then 3 else 4
theorem un0 : ∀ o, o < 64 → ((8 ≤ o ∧ o < 20) ∨ (o = 30 ∨ o = 31 ∨ o = 35 ∨ o = 39) ∨ (40 ≤ o ∧ o < 64)) → F_X1_unitOf (nI o) = nI (Un o) ∧ F_X9_unit (nI o) = nI (Un o) ∧ Un o < 5 := by decide +kernel
theorem Vd.lt {o : Nat} (h : Vd o) : o < 64 := by unfold Vd at h; omega
theorem Vd.un {o : Nat} (h : Vd o) : F_X1_unitOf (nI o) = nI (Un o) ∧ F_X9_unit (nI o) = nI (Un o) ∧ Un o < 5 := un0 o h.lt h
/-- what an instruction does with the memory -/
theorem mem3 : ∀ o, o < 64 → ∀ i, i < 8 → (F_X9_isMemory (nI o) (nI i) = 0 ∧ F_X1_loads (nI o) (nI i) = 0 ∧ F_X1_stores (nI o) (nI i) = 0) ∨ (F_X9_isMemory (nI o) (nI i) = 1 ∧ F_X1_loads (nI o) (nI i) = 0 ∧ F_X1_stores (nI o) (nI i) = 1 ∧ (6 : Int32) ≤ nI i) ∨ (F_X9_isMemory (nI o) (nI i) = 1 ∧ F_X1_loads (nI o) (nI i) = 1 ∧ ¬ (6 : Int32) ≤ nI i) := by decide +kernel
/-- the numbers of a row of cycles, in the class and in the reference -/
def TF (N B : Nat) (T : Nat → Nat) (f : Nat → Int32) (g : Nat → Int64) : Prop := ∀ n, n < N → f n = nI (T n) ∧ g n = lN (T n) ∧ T n ≤ B
theorem TF.i {N B : Nat} {T : Nat → Nat} {f : Nat → Int32} {g : Nat → Int64} (h : TF N B T f g) (hB : B < 2 ^ 31) : ∀ n, n < N → f n = nI (T n) ∧ T n < 2 ^ 31 := fun n hn => ⟨(h n hn).1, by have := (h n hn).2.2; omega⟩
theorem TF.l {N B : Nat} {T : Nat → Nat} {f : Nat → Int32} {g : Nat → Int64} (h : TF N B T f g) (hB : B < 2 ^ 31) : ∀ n, n < N → g n = lN (T n) ∧ T n < 2 ^ 31 := fun n hn => ⟨(h n hn).2.1, by have := (h n hn).2.2; omega⟩
theorem IsMax.le {P : Nat → Prop} {T : Nat → Nat} {b m B : Nat} (h : IsMax P T b m) (hb : b ≤ B) (hT : ∀ n, n < 24 → T n ≤ B) : m ≤ B := by
  rcases h.2.2 with e | ⟨n, hn, _, e⟩
  · omega
  · have := hT n hn; omega
/-- the cycles waited -/
def wt (f : Nat → Int64) (k d : Nat) : Nat → Int64 := vp_updL f k (f k + lN d)
theorem wait_eq {a b : Nat} (ha : a < 2 ^ 30) (hb : b < 2 ^ 30) (k : Int32) (f : Nat → Int64) : F_X0_waitFor (nI a) (nI b) k f = (nI (max a b), wt f k.toNatClampNeg (max a b - a)) := by
  unfold F_X0_waitFor wt
  rw [imax (by omega) (by omega), pk_sub (by omega), nI_l (by omega)]
theorem reach_eq {a b : Nat} (ha : a < 2 ^ 31) (hb : b < 2 ^ 31) : F_X0_reach (nI a) (nI b) = nI (max b a) := by
  unfold F_X0_reach
  exact imax hb ha
theorem add_sub (w : Int64) {a b : Nat} (h : b ≤ a) : w + lN a - lN b = w + lN (a - b) := by
  rw [show lN a = lN (a - b) + lN b from by rw [lN_add]; congr 1; omega, ← Int64.add_assoc, Int64.add_sub_cancel]
theorem cl0 : (0 : Int32).toNatClampNeg = 0 := by decide
theorem cl1 : (1 : Int32).toNatClampNeg = 1 := by decide
theorem cl2 : (2 : Int32).toNatClampNeg = 2 := by decide
theorem cl3 : (3 : Int32).toNatClampNeg = 3 := by decide
theorem cl4 : (4 : Int32).toNatClampNeg = 4 := by decide
theorem cl5 : (5 : Int32).toNatClampNeg = 5 := by decide
theorem cl6 : (6 : Int32).toNatClampNeg = 6 := by decide
theorem cl7 : (7 : Int32).toNatClampNeg = 7 := by decide
theorem loop208 {xo xi xz xa xg v1 : Int32} {v4 v8 v10 xM xE xL : Int64} {xd : Nat → Int32} {xwt xf xrd xu : Nat → Int64} {G : Nat → Prop} {T : Nat → Nat} {c : Nat} (hG : MR G xg) (hT : ∀ n, n < 24 → xrd n = lN (T n) ∧ T n < 2 ^ 30) : ∀ (fuel t m : Nat), t ≤ 24 → 24 < t + fuel → m < 2 ^ 31 → IsMax (fun n => n < t ∧ G n) (fun n => T n + 1) c m → ∃ m', F_X9_board_208 xo xi xz xa xg fuel v1 v4 v8 v10 (lN m) (nI t) xM xE xL xd xwt xf xrd xu = F_X9_board_255 xo xi xz xa xg v1 v4 v8 v10 (lN m') xM xE xL xd xwt xf xrd xu ∧ IsMax G (fun n => T n + 1) c m' := by
  intro fuel
  induction fuel with
  | zero => intro t m h1 h2; omega
  | succ k ih =>
    intro t m h1 h2 hm hM
    rw [F_X9_board_208]
    by_cases e : t = 24
    · rw [if_pos (show (24 : Int32) ≤ nI t from nI_le (a := 24) (by omega) (by omega))]
      subst e
      exact ⟨m, rfl, hM.to fun n hn => ⟨fun q => q.2, fun q => ⟨hn, q⟩⟩⟩
    · obtain ⟨h5, h6⟩ := hT t (by omega)
      rw [if_neg (show ¬ (24 : Int32) ≤ nI t from nI_ge (b := 24) (by omega) (by omega)), nI_1]
      by_cases cc : G t
      · rw [if_pos ((hG.bit (by omega)).mpr cc), nI_clamp (by omega), h5, lN_1, lmax (by omega) (by omega)]
        refine ih (t + 1) _ (by omega) (by omega) (by omega) ((hM.add (q := t) (by omega)).to fun n hn => ?_)
        constructor
        · rintro (⟨a, b⟩ | rfl)
          · exact ⟨by omega, b⟩
          · exact ⟨by omega, cc⟩
        · rintro ⟨a, b⟩
          rcases Nat.lt_or_ge n t with q | q
          · exact Or.inl ⟨q, b⟩
          · exact Or.inr (by omega)
      · rw [if_neg (fun q => cc ((hG.bit (by omega)).mp q))]
        refine ih (t + 1) _ (by omega) (by omega) (by omega) (hM.to fun n hn => ?_)
        constructor
        · rintro ⟨a, b⟩
          exact ⟨by omega, b⟩
        · rintro ⟨a, b⟩
          rcases Nat.lt_or_ge n t with q | q
          · exact ⟨q, b⟩
          · rw [show n = t by omega] at b
            exact absurd b cc
theorem loop301 {xo xi xz xa xg v1 : Int32} {v4 v8 v12 xM xE xL : Int64} {xd : Nat → Int32} {xwt xu f0 r0 : Nat → Int64} {P G : Nat → Prop} (hP : MR P xa) (hG : MR G xg) : ∀ (fuel t : Nat) (xf xrd : Nat → Int64), t ≤ 24 → 24 < t + fuel → (∀ n, n < 24 → (n < t → (G n → xf n = v12 + 1) ∧ (¬ G n → xf n = f0 n) ∧ (P n → xrd n = F_X9_later (r0 n) v8) ∧ (¬ P n → xrd n = r0 n)) ∧ (t ≤ n → xf n = f0 n ∧ xrd n = r0 n)) → ∃ xf' xrd', F_X9_board_301 xo xi xz xa xg fuel v1 v4 v8 v12 (nI t) xM xE xL xd xwt xf xrd xu = F_X9_board_390 xo xi xz v1 v4 v12 xM xE xL xd xwt xf' xrd' xu ∧ ∀ n, n < 24 → (G n → xf' n = v12 + 1) ∧ (¬ G n → xf' n = f0 n) ∧ (P n → xrd' n = F_X9_later (r0 n) v8) ∧ (¬ P n → xrd' n = r0 n) := by
  intro fuel
  induction fuel with
  | zero => intro t xf xrd h1 h2; omega
  | succ k ih =>
    intro t xf xrd h1 h2 hx
    rw [F_X9_board_301]
    by_cases e : t = 24
    · rw [if_pos (show (24 : Int32) ≤ nI t from nI_le (a := 24) (by omega) (by omega))]
      exact ⟨xf, xrd, rfl, fun n hn => (hx n hn).1 (by omega)⟩
    · have ht : t < 24 := by omega
      rw [if_neg (show ¬ (24 : Int32) ≤ nI t from nI_ge (b := 24) (by omega) (by omega)), nI_1, nI_clamp (by omega)]
      have key : ∀ a b : Int64, (G t → a = v12 + 1) → (¬ G t → a = f0 t) → (P t → b = F_X9_later (r0 t) v8) → (¬ P t → b = r0 t) → ∀ n, n < 24 → (n < t + 1 → (G n → vp_updL xf t a n = v12 + 1) ∧ (¬ G n → vp_updL xf t a n = f0 n) ∧ (P n → vp_updL xrd t b n = F_X9_later (r0 n) v8) ∧ (¬ P n → vp_updL xrd t b n = r0 n)) ∧ (t + 1 ≤ n → vp_updL xf t a n = f0 n ∧ vp_updL xrd t b n = r0 n) := by
        intro a b a1 a2 b1 b2 n hn
        unfold vp_updL
        by_cases en : n = t
        · subst en
          simp only [if_true]
          exact ⟨fun _ => ⟨a1, a2, b1, b2⟩, fun q => absurd q (by omega)⟩
        · simp only [if_neg en]
          exact ⟨fun q => (hx n hn).1 (by omega), fun q => (hx n hn).2 (by omega)⟩
      obtain ⟨o1, o2⟩ := (hx t ht).2 (Nat.le_refl _)
      by_cases cp : P t
      · rw [if_pos ((hP.bit ht).mpr cp)]
        by_cases cg : G t
        · rw [if_pos ((hG.bit ht).mpr cg)]
          exact ih (t + 1) _ _ (by omega) (by omega) (key _ _ (fun _ => rfl) (fun q => absurd cg q) (fun _ => by rw [o2]) (fun q => absurd cp q))
        · rw [if_neg (fun q => cg ((hG.bit ht).mp q))]
          exact ih (t + 1) _ _ (by omega) (by omega) (key _ _ (fun q => absurd q cg) (fun _ => o1) (fun _ => by rw [o2]) (fun q => absurd cp q))
      · rw [if_neg (fun q => cp ((hP.bit ht).mp q))]
        by_cases cg : G t
        · rw [if_pos ((hG.bit ht).mpr cg)]
          exact ih (t + 1) _ _ (by omega) (by omega) (key _ _ (fun _ => rfl) (fun q => absurd cg q) (fun q => absurd q cp) (fun _ => o2))
        · rw [if_neg (fun q => cg ((hG.bit ht).mp q))]
          exact ih (t + 1) _ _ (by omega) (by omega) (key _ _ (fun q => absurd q cg) (fun _ => o1) (fun q => absurd q cp) (fun _ => o2))
