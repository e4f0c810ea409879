theorem holds_iff (a : Int32) : (¬ F_X3_holds a = 0) ↔ (¬ a < 0 ∧ a < (512 : Int32)) := by
  unfold F_X3_holds
  by_cases h1 : a < 0
  · simp [h1]
  · by_cases h2 : (512 : Int32) ≤ a
    · simp [h1, h2, Int32.not_lt.mpr h2]
    · simp [h1, h2, Int32.not_le.mp h2]
theorem holds_no {a : Int32} (h : F_X3_holds a = 0) : a < 0 ∨ (¬ a < 0 ∧ ¬ a < (512 : Int32)) := by
  by_cases h1 : a < 0
  · exact Or.inl h1
  · exact Or.inr ⟨h1, fun h2 => ((holds_iff a).mpr ⟨h1, h2⟩) h⟩
theorem d10 : ¬ (1 : Int32) ≤ 0 := by decide
theorem d10e : ¬ (1 : Int32) = 0 := by decide
theorem d00 : (0 : Int32) ≤ 0 := by decide
theorem xwrite_ok {a : Int32} {v : Int64} {f : Nat → Int64} (h : ¬ F_X3_holds a = 0) : F_X9_write a v f = (f a.toNatClampNeg, 0, vp_updL f a.toNatClampNeg (v &&& (1152921504606846975 : Int64))) := by
  obtain ⟨h1, h2⟩ := (holds_iff a).mp h
  rw [F_X9_write, if_neg h1, if_pos h2, if_pos d00]
theorem xwrite_no {a : Int32} {v : Int64} {f : Nat → Int64} (h : F_X3_holds a = 0) : F_X9_write a v f = (0, 1, f) := by
  rcases holds_no h with h1 | ⟨h1, h2⟩
  · rw [F_X9_write, if_pos h1, if_neg d10]
  · rw [F_X9_write, if_neg h1, if_neg h2, if_neg d10]
theorem xread_ok {a : Int32} {f : Nat → Int64} (h : ¬ F_X3_holds a = 0) : F_X9_read a f = (f a.toNatClampNeg, 0) := by
  obtain ⟨h1, h2⟩ := (holds_iff a).mp h
  rw [F_X9_read, if_neg h1, if_pos h2, if_pos d00]
theorem xread_no {a : Int32} {f : Nat → Int64} (h : F_X3_holds a = 0) : F_X9_read a f = (0, 1) := by
  rcases holds_no h with h1 | ⟨h1, h2⟩
  · rw [F_X9_read, if_pos h1, if_neg d10]
  · rw [F_X9_read, if_neg h1, if_neg h2, if_neg d10]
theorem xstart_ok {a w p s : Int32} (h : ¬ F_X3_holds a = 0) : F_X9_start a w p s = (0, a, 0, 3) := by
  obtain ⟨h1, h2⟩ := (holds_iff a).mp h
  rw [F_X9_start, if_neg h1, if_pos h2, if_pos rfl]
theorem xstart_no {a w p s : Int32} (h : F_X3_holds a = 0) : F_X9_start a w p s = (1, w, p, s) := by
  rcases holds_no h with h1 | ⟨h1, h2⟩
  · rw [F_X9_start, if_pos h1, if_neg d10e]
  · rw [F_X9_start, if_neg h1, if_neg h2, if_neg d10e]
theorem le_pred {k : Int32} {n m : Int32} (e : m.toInt + 1 = n.toInt) : k < n ↔ k ≤ m := by
  rw [Int32.lt_iff_toInt_lt, Int32.le_iff_toInt_le]; omega
theorem xreg_ok {k : Int32} {f : Nat → Int64} (h : ¬ k < 0 ∧ k < (24 : Int32)) : F_X9_register k f = (f k.toNatClampNeg, 0) := by
  rw [F_X9_register, if_neg h.1, if_pos ((le_pred (m := 23) rfl).mp h.2), if_pos d00]
theorem no_or {k n : Int32} (h : ¬ (¬ k < 0 ∧ k < n)) : k < 0 ∨ (¬ k < 0 ∧ ¬ k < n) := by
  by_cases h1 : k < 0
  · exact Or.inl h1
  · exact Or.inr ⟨h1, fun h2 => h ⟨h1, h2⟩⟩
theorem xreg_no {k : Int32} {f : Nat → Int64} (h : ¬ (¬ k < 0 ∧ k < (24 : Int32))) : F_X9_register k f = (0, 1) := by
  rcases no_or h with h1 | ⟨h1, h2⟩
  · rw [F_X9_register, if_pos h1, if_neg d10]
  · rw [F_X9_register, if_neg h1, if_neg (fun q => h2 ((le_pred (m := 23) rfl).mpr q)), if_neg d10]
theorem xput_ok {k : Int32} {v : Int64} {f : Nat → Int64} (h : ¬ k < 0 ∧ k < (24 : Int32)) : F_X9_put k v f = (0, F_X9_set k v f) := by
  rw [F_X9_put, if_neg h.1, if_pos ((le_pred (m := 23) rfl).mp h.2), if_pos rfl]
theorem xput_no {k : Int32} {v : Int64} {f : Nat → Int64} (h : ¬ (¬ k < 0 ∧ k < (24 : Int32))) : F_X9_put k v f = (1, f) := by
  rcases no_or h with h1 | ⟨h1, h2⟩
  · rw [F_X9_put, if_pos h1, if_neg d10e]
  · rw [F_X9_put, if_neg h1, if_neg (fun q => h2 ((le_pred (m := 23) rfl).mpr q)), if_neg d10e]
theorem xdone_ok {k : Int32} {f : Nat → Int32} (h : ¬ k < 0 ∧ k < (8 : Int32)) : F_X9_done k f = (f k.toNatClampNeg, 0) := by
  rw [F_X9_done, if_neg h.1, if_pos ((le_pred (m := 7) rfl).mp h.2), if_pos d00]
theorem xdone_no {k : Int32} {f : Nat → Int32} (h : ¬ (¬ k < 0 ∧ k < (8 : Int32))) : F_X9_done k f = (0, 1) := by
  rcases no_or h with h1 | ⟨h1, h2⟩
  · rw [F_X9_done, if_pos h1, if_neg d10]
  · rw [F_X9_done, if_neg h1, if_neg (fun q => h2 ((le_pred (m := 7) rfl).mpr q)), if_neg d10]
theorem xwaited_ok {k : Int32} {f : Nat → Int64} (h : ¬ k < 0 ∧ k < (5 : Int32)) : F_X9_waited k f = (f k.toNatClampNeg, 0) := by
  rw [F_X9_waited, if_neg h.1, if_pos ((le_pred (m := 4) rfl).mp h.2), if_pos d00]
theorem xwaited_no {k : Int32} {f : Nat → Int64} (h : ¬ (¬ k < 0 ∧ k < (5 : Int32))) : F_X9_waited k f = (0, 1) := by
  rcases no_or h with h1 | ⟨h1, h2⟩
  · rw [F_X9_waited, if_pos h1, if_neg d10]
  · rw [F_X9_waited, if_neg h1, if_neg (fun q => h2 ((le_pred (m := 4) rfl).mpr q)), if_neg d10]
theorem set_eq (k : Int32) (v : Int64) (f : Nat → Int64) : F_X6_set k v f = F_X9_set k v f := by
  unfold F_X6_set F_X6_set_27 F_X9_set
  rfl
/-- class and reference between two calls -/
def Rel (cw cp cs : Int32) (mw gv : Nat → Int64) (bC : Int64) (bd : Nat → Int32) (bw : Nat → Int64) (nS : Int32) (nn : Nat → Int32) (rS : Int32) (rr : Nat → Int32) (xw xp xs : Int32) (xmw xr : Nat → Int64) (xc : Int64) (xd : Nat → Int32) (xwt : Nat → Int64) : Prop :=
  (cw = xw ∧ cp = xp ∧ cs = xs ∧ bC = xc) ∧ ((∀ a, a < 512 → mw a = xmw a ∧ Nb O60 (mw a)) ∧ (∀ n, n < 24 → gv n = xr n) ∧ XRg xr ∧ xr 16 = 0) ∧ ((∀ u, u < 8 → bd u = xd u) ∧ (∀ u, u < 5 → bw u = xwt u)) ∧ (LOk nS nn ∧ LOk rS rr) ∧ (cs = 3 → vp_in cw 512) ∧ ∃ p : Nat, p < 4 ∧ cp = nI p
