-- X5_clear
def F_X5_clear : Int32 :=
  (0 : Int32)
abbrev rm_X5_clear : Room := { frames := 0, cells := 0, slots := 0, locals := 0 }
set_option maxRecDepth 20000 in
theorem mi_X5_clear_X5 : ∀ w ∈ wsX50, w ∈ wsX5_clear := by decide +kernel
set_option maxRecDepth 20000 in
theorem mm_X5_clear_f15 : Cond.fieldLink RX5 15 "ScoreboardCore$RegisterList" "size" "I" ∈ wsX5_clear := by decide +kernel
set_option maxHeartbeats 4000000 in
set_option maxRecDepth 100000 in
theorem w_X5_clear {p : Program} {l : Launch} {e : Env} {s : State} {m : MethodId} {below : List Frame} {meth : Method} {c : Code} {args : Array Value} (dC : Nat → ClassId) (dI : Nat → Nat → Nat) (cI cJ : ClassId) (hL l1 : Nat) (lS : Int32) {w0 : va_W} (C0 : Cx p s m meth c cX5_clear 1 none wsX5_clear RX5 args) (hK : va_K (dC, dI) vwCl [(cI, .int), (cJ, .long)] s) (hZ : Zs false (va_A w0 s.heap.size) s s.heap) {V : Int32} (hV : (F_X5_clear ) = V) (ls : Array Slot) (hl : lv_has ls 1 [(0, .ref hL)]) {H : Heap} {locs : List Loc} (hP : va_P (dC, dI) vwCl [(hL, .inr (3, [.ref l1, .int lS]))] H) (hD : va_D (va_A w0 s.heap.size) [(hL, .inr (3, [.ref l1, .int lS]))]) (hS : va_S (va_A w0 s.heap.size) s.heap H locs) : W p l e rm_X5_clear s m args below meth c H locs 0 0 (MQ below (QV (dC, dI) [(cI, .int), (cJ, .long)] w0 [(hL, .inr (3, [.ref l1, .int V]))] s.heap.size) args s 0 0 (va_A w0 s.heap.size)) (F0 m 0 ls []) := by
  obtain ⟨hx, hb, hr, hlk, hml, hown, hts⟩ := id C0
  have hA : ∀ q : Nat, s.heap.size ≤ q → va_A w0 s.heap.size q := fun q h => Or.inr h
  refine lv_aload_n hx hb dX5_clear_0 rfl (lv_at hl 0 rfl) ?_
  refine lv_iconst (v := (0 : Int32)) hx hb dX5_clear_1 (by decide) ?_
  refine va_put (D := (dC, dI)) (ci := 3) (v := .int (0 : Int32)) (ty := .int) (C := RX5) (T := TX5) (N := 2) hx hb hts mi_X5_clear_X5 tyX5 tyX5_ok nmX5 hown hK hP hD hS 0 rfl rfl 1 (by decide) (hts (.fieldLink RX5 15 "ScoreboardCore$RegisterList" "size" "I") mm_X5_clear_f15) (fun _ h9 => h9) rfl (by decide +kernel) rfl rfl (Nat.le_of_ble_eq_true rfl) dX5_clear_2 (fun H locs hP hD hS => ?_)
  have hP : va_P (dC, dI) vwCl [(hL, .inr (3, [.ref l1, .int (0 : Int32)]))] H := hP
  have hD : va_D (va_A w0 s.heap.size) [(hL, .inr (3, [.ref l1, .int (0 : Int32)]))] := hD
  have e9 : (F_X5_clear ) = (0 : Int32) := by rw [F_X5_clear]
  rw [e9] at hV
  subst hV
  exact wrRetV C0 hK hP hD hS dX5_clear_5
theorem c_X5_clear (l : Launch) (dC : Nat → ClassId) (dI : Nat → Nat → Nat) (cI cJ : ClassId) (hL l1 : Nat) (lS : Int32) : WrV false l yX5_clear wsX5_clear rm_X5_clear (dC, dI) [(cI, .int), (cJ, .long)] [(hL, .inr (3, [.ref l1, .int lS]))] [(hL, .inr (3, [.ref l1, .int (F_X5_clear )]))] [.ref hL] := by
  refine WrV.mk (cc := cX5_clear) (nL := 1) (ret := none) [(0, .ref hL)] (by decide) rfl (Nat.le_of_ble_eq_true rfl) rfl ?_
  intro p e s m below meth c C0 hP hK hD hS hZ ls hl
  exact w_X5_clear dC dI cI cJ hL l1 lS C0 hK hZ rfl ls hl hP hD hS

-- X5_add
def F_X5_add (k : Int32) (lS : Int32) (ln : Nat → Int32) : Int32 × (Nat → Int32) :=
  (if k = (16 : Int32) then (lS, ln) else (if (3 : Int32) ≤ lS then (lS, ln) else ((lS + (1 : Int32)), (upd ln lS.toNatClampNeg k))))
abbrev rm_X5_add : Room := { frames := 0, cells := 0, slots := 0, locals := 0 }
set_option maxRecDepth 20000 in
theorem mi_X5_add_X5 : ∀ w ∈ wsX50, w ∈ wsX5_add := by decide +kernel
set_option maxRecDepth 20000 in
theorem mm_X5_add_f11 : Cond.fieldLink RX5 11 "ScoreboardCore$RegisterList" "numbers" "[I" ∈ wsX5_add := by decide +kernel
set_option maxRecDepth 20000 in
theorem mm_X5_add_f15 : Cond.fieldLink RX5 15 "ScoreboardCore$RegisterList" "size" "I" ∈ wsX5_add := by decide +kernel
set_option maxHeartbeats 4000000 in
set_option maxRecDepth 100000 in
theorem w_X5_add {p : Program} {l : Launch} {e : Env} {s : State} {m : MethodId} {below : List Frame} {meth : Method} {c : Code} {args : Array Value} (dC : Nat → ClassId) (dI : Nat → Nat → Nat) (cI cJ : ClassId) (hL l1 : Nat) (k : Int32) (lS : Int32) (ln : Nat → Int32) {w0 : va_W} (C0 : Cx p s m meth c cX5_add 2 none wsX5_add RX5 args) (hK : va_K (dC, dI) vwCl [(cI, .int), (cJ, .long)] s) (hZ : Zs false (va_A w0 s.heap.size) s s.heap) (hn : LOk lS ln) {V : Int32 × (Nat → Int32)} (hV : (F_X5_add k lS ln ) = V) (ls : Array Slot) (hl : lv_has ls 2 [(0, .ref hL), (1, .int k)]) {H : Heap} {locs : List Loc} (hP : va_P (dC, dI) vwCl [(hL, .inr (3, [.ref l1, .int lS])), (l1, .inl (cI, 3, .inl ln))] H) (hD : va_D (va_A w0 s.heap.size) [(hL, .inr (3, [.ref l1, .int lS])), (l1, .inl (cI, 3, .inl ln))]) (hS : va_S (va_A w0 s.heap.size) s.heap H locs) : W p l e rm_X5_add s m args below meth c H locs 0 0 (MQ below (QV (dC, dI) [(cI, .int), (cJ, .long)] w0 [(hL, .inr (3, [.ref l1, .int V.1])), (l1, .inl (cI, 3, .inl V.2))] s.heap.size) args s 0 0 (va_A w0 s.heap.size)) (F0 m 0 ls []) := by
  obtain ⟨hx, hb, hr, hlk, hml, hown, hts⟩ := id C0
  have hA : ∀ q : Nat, s.heap.size ≤ q → va_A w0 s.heap.size q := fun q h => Or.inr h
  refine lv_iload_n hx hb dX5_add_0 rfl (lv_at hl 1 rfl) ?_
  refine lv_bipush (v := (16 : Int32)) hx hb dX5_add_1 (by decide) ?_
  refine lv_icmp_eq (x := k) (y := (16 : Int32)) (tgt := 34) hx hb dX5_add_3 (by decide) (fun c1 => ?_) (fun c1 => ?_)
  · have e9 : (F_X5_add k lS ln ) = (lS, ln) := by rw [F_X5_add, if_pos c1]
    rw [e9] at hV
    subst hV
    exact wrRetV C0 hK hP hD hS dX5_add_34
  · refine lv_aload_n hx hb dX5_add_6 rfl (lv_at hl 0 rfl) ?_
    refine va_get (D := (dC, dI)) (ci := 3) (v := .int lS) (C := RX5) (T := TX5) (N := 2) hx hb hts mi_X5_add_X5 hown hK hP 0 rfl rfl 1 (by decide) (hts (.fieldLink RX5 15 "ScoreboardCore$RegisterList" "size" "I") mm_X5_add_f15) (fun _ h9 => h9) rfl dX5_add_7 ?_
    refine lv_iconst (v := (3 : Int32)) hx hb dX5_add_10 (by decide) ?_
    refine lv_icmp_ge (x := lS) (y := (3 : Int32)) (tgt := 34) hx hb dX5_add_11 (by decide) (fun c2 => ?_) (fun c2 => ?_)
    · have e9 : (F_X5_add k lS ln ) = (lS, ln) := by rw [F_X5_add, if_neg c1, if_pos c2]
      rw [e9] at hV
      subst hV
      exact wrRetV C0 hK hP hD hS dX5_add_34
    · refine lv_aload_n hx hb dX5_add_14 rfl (lv_at hl 0 rfl) ?_
      refine va_get (D := (dC, dI)) (ci := 3) (v := .ref l1) (C := RX5) (T := TX5) (N := 2) hx hb hts mi_X5_add_X5 hown hK hP 0 rfl rfl 0 (by decide) (hts (.fieldLink RX5 11 "ScoreboardCore$RegisterList" "numbers" "[I") mm_X5_add_f11) (fun _ h9 => h9) rfl dX5_add_15 ?_
      refine lv_aload_n hx hb dX5_add_18 rfl (lv_at hl 0 rfl) ?_
      refine va_get (D := (dC, dI)) (ci := 3) (v := .int lS) (C := RX5) (T := TX5) (N := 2) hx hb hts mi_X5_add_X5 hown hK hP 0 rfl rfl 1 (by decide) (hts (.fieldLink RX5 15 "ScoreboardCore$RegisterList" "size" "I") mm_X5_add_f15) (fun _ h9 => h9) rfl dX5_add_19 ?_
      refine lv_iload_n hx hb dX5_add_22 rfl (lv_at hl 1 rfl) ?_
      refine va_iast (D := (dC, dI)) hx hb hK hP hD hS 1 0 rfl rfl (hn.size c2) dX5_add_23 (fun H locs hP hD hS => ?_)
      have hP : va_P (dC, dI) vwCl [(hL, .inr (3, [.ref l1, .int lS])), (l1, .inl (cI, 3, .inl (upd ln lS.toNatClampNeg k)))] H := hP
      have hD : va_D (va_A w0 s.heap.size) [(hL, .inr (3, [.ref l1, .int lS])), (l1, .inl (cI, 3, .inl (upd ln lS.toNatClampNeg k)))] := hD
      refine lv_aload_n hx hb dX5_add_24 rfl (lv_at hl 0 rfl) ?_
      refine lv_dup hx hb dX5_add_25 rfl ?_
      refine va_get (D := (dC, dI)) (ci := 3) (v := .int lS) (C := RX5) (T := TX5) (N := 2) hx hb hts mi_X5_add_X5 hown hK hP 0 rfl rfl 1 (by decide) (hts (.fieldLink RX5 15 "ScoreboardCore$RegisterList" "size" "I") mm_X5_add_f15) (fun _ h9 => h9) rfl dX5_add_26 ?_
      refine lv_iconst (v := (1 : Int32)) hx hb dX5_add_29 (by decide) ?_
      refine lv_iadd hx hb dX5_add_30 ?_
      refine va_put (D := (dC, dI)) (ci := 3) (v := .int (lS + (1 : Int32))) (ty := .int) (C := RX5) (T := TX5) (N := 2) hx hb hts mi_X5_add_X5 tyX5 tyX5_ok nmX5 hown hK hP hD hS 0 rfl rfl 1 (by decide) (hts (.fieldLink RX5 15 "ScoreboardCore$RegisterList" "size" "I") mm_X5_add_f15) (fun _ h9 => h9) rfl (by decide +kernel) rfl rfl (Nat.le_of_ble_eq_true rfl) dX5_add_31 (fun H locs hP hD hS => ?_)
      have hP : va_P (dC, dI) vwCl [(hL, .inr (3, [.ref l1, .int (lS + (1 : Int32))])), (l1, .inl (cI, 3, .inl (upd ln lS.toNatClampNeg k)))] H := hP
      have hD : va_D (va_A w0 s.heap.size) [(hL, .inr (3, [.ref l1, .int (lS + (1 : Int32))])), (l1, .inl (cI, 3, .inl (upd ln lS.toNatClampNeg k)))] := hD
      have e9 : (F_X5_add k lS ln ) = ((lS + (1 : Int32)), (upd ln lS.toNatClampNeg k)) := by rw [F_X5_add, if_neg c1, if_neg c2]
      rw [e9] at hV
      subst hV
      exact wrRetV C0 hK hP hD hS dX5_add_34
theorem c_X5_add (l : Launch) (dC : Nat → ClassId) (dI : Nat → Nat → Nat) (cI cJ : ClassId) (hL l1 : Nat) (k : Int32) (lS : Int32) (ln : Nat → Int32) (hn : LOk lS ln) : WrV false l yX5_add wsX5_add rm_X5_add (dC, dI) [(cI, .int), (cJ, .long)] [(hL, .inr (3, [.ref l1, .int lS])), (l1, .inl (cI, 3, .inl ln))] [(hL, .inr (3, [.ref l1, .int ((F_X5_add k lS ln ).1)])), (l1, .inl (cI, 3, .inl ((F_X5_add k lS ln ).2)))] [.ref hL, .int k] := by
  refine WrV.mk (cc := cX5_add) (nL := 2) (ret := none) [(0, .ref hL), (1, .int k)] (by decide) rfl (Nat.le_of_ble_eq_true rfl) rfl ?_
  intro p e s m below meth c C0 hP hK hD hS hZ ls hl
  exact w_X5_add dC dI cI cJ hL l1 k lS ln C0 hK hZ hn rfl ls hl hP hD hS

-- X5_addX
def F_X5_addX (k : Int32) (lS : Int32) (ln : Nat → Int32) : Int32 × (Nat → Int32) :=
  (((F_X5_add k lS ln).1), ((F_X5_add k lS ln).2))
abbrev rm_X5_addX : Room := { frames := 1, cells := 0, slots := 0, locals := 21 }
set_option maxRecDepth 20000 in
theorem mm_X5_addX_iX5 : Cond.initialized RX5 ∈ wsX5_addX := by decide +kernel
set_option maxRecDepth 20000 in
theorem mm_X5_addX_l19 : Cond.methodLink RX5 19 yX5_add ∈ wsX5_addX := by decide +kernel
set_option maxRecDepth 20000 in
theorem mm_X5_addX_nX5_add : Cond.instanceMethod yX5_add ∈ wsX5_addX := by decide +kernel
set_option maxRecDepth 20000 in
theorem mm_X5_addX_sX5_add : Cond.selects RX5 yX5_add yX5_add ∈ wsX5_addX := by decide +kernel
set_option maxHeartbeats 4000000 in
set_option maxRecDepth 100000 in
theorem w_X5_addX {p : Program} {l : Launch} {e : Env} {s : State} {m : MethodId} {below : List Frame} {meth : Method} {c : Code} {args : Array Value} (dC : Nat → ClassId) (dI : Nat → Nat → Nat) (cI cJ : ClassId) (hL l1 : Nat) (k : Int32) (lS : Int32) (ln : Nat → Int32) {w0 : va_W} (C0 : Cx p s m meth c cX5_addX 2 none wsX5_addX RX5 args) (hK : va_K (dC, dI) vwCl [(cI, .int), (cJ, .long)] s) (hZ : Zs false (va_A w0 s.heap.size) s s.heap) (hn : LOk lS ln) {V : Int32 × (Nat → Int32)} (hV : (F_X5_addX k lS ln ) = V) (ls : Array Slot) (hl : lv_has ls 2 [(0, .ref hL), (1, .int k)]) {H : Heap} {locs : List Loc} (hP : va_P (dC, dI) vwCl [(hL, .inr (3, [.ref l1, .int lS])), (l1, .inl (cI, 3, .inl ln))] H) (hD : va_D (va_A w0 s.heap.size) [(hL, .inr (3, [.ref l1, .int lS])), (l1, .inl (cI, 3, .inl ln))]) (hS : va_S (va_A w0 s.heap.size) s.heap H locs) : W p l e rm_X5_addX s m args below meth c H locs 0 0 (MQ below (QV (dC, dI) [(cI, .int), (cJ, .long)] w0 [(hL, .inr (3, [.ref l1, .int V.1])), (l1, .inl (cI, 3, .inl V.2))] s.heap.size) args s 0 0 (va_A w0 s.heap.size)) (F0 m 0 ls []) := by
  obtain ⟨hx, hb, hr, hlk, hml, hown, hts⟩ := id C0
  have hA : ∀ q : Nat, s.heap.size ≤ q → va_A w0 s.heap.size q := fun q h => Or.inr h
  refine lv_aload_n hx hb dX5_addX_0 rfl (lv_at hl 0 rfl) ?_
  refine lv_iload_n hx hb dX5_addX_1 rfl (lv_at hl 1 rfl) ?_
  refine wrVv (As := [.int k]) (rest := []) (bytes := cX5_add) (maxL := 2) (rty := none) (n := 1) (ci := 3) C0 (c_X5_add l dC dI cI cJ hL l1 k lS ln hn) ⟨rfl, rfl, rfl, by decide +kernel, by decide, by decide⟩ ggX5_addX_X5_add mm_X5_addX_iX5 mm_X5_addX_l19 mm_X5_addX_nX5_add mm_X5_addX_sX5_add rfl rfl hP hD hK hS hA (Zs.no _ _ _) [0, 1] [] [0, 1] [] [(hL, .inr (3, [.ref l1, .int ((F_X5_add k lS ln).1)])), (l1, .inl (cI, 3, .inl ((F_X5_add k lS ln).2)))] rfl (by decide) (hP.sub (ws' := [(hL, .inr (3, [.ref l1, .int lS])), (l1, .inl (cI, 3, .inl ln))]) [0, 1] rfl) rfl (by decide) (by decide) (by decide) rfl hl.1 rfl rfl (Nat.le_of_ble_eq_true rfl) dX5_addX_2 ⟨Nat.zero_le _, Nat.zero_le _⟩ (fun H locs hP hD hS => ?_)
  have e9 : (F_X5_addX k lS ln ) = (((F_X5_add k lS ln).1), ((F_X5_add k lS ln).2)) := by rw [F_X5_addX]
  rw [e9] at hV
  subst hV
  exact wrRetV C0 hK hP hD hS dX5_addX_5
theorem c_X5_addX (l : Launch) (dC : Nat → ClassId) (dI : Nat → Nat → Nat) (cI cJ : ClassId) (hL l1 : Nat) (k : Int32) (lS : Int32) (ln : Nat → Int32) (hn : LOk lS ln) : WrV false l yX5_addX wsX5_addX rm_X5_addX (dC, dI) [(cI, .int), (cJ, .long)] [(hL, .inr (3, [.ref l1, .int lS])), (l1, .inl (cI, 3, .inl ln))] [(hL, .inr (3, [.ref l1, .int ((F_X5_addX k lS ln ).1)])), (l1, .inl (cI, 3, .inl ((F_X5_addX k lS ln ).2)))] [.ref hL, .int k] := by
  refine WrV.mk (cc := cX5_addX) (nL := 2) (ret := none) [(0, .ref hL), (1, .int k)] (by decide) rfl (Nat.le_of_ble_eq_true rfl) rfl ?_
  intro p e s m below meth c C0 hP hK hD hS hZ ls hl
  exact w_X5_addX dC dI cI cJ hL l1 k lS ln C0 hK hZ hn rfl ls hl hP hD hS

-- X5_addA
def F_X5_addA (k : Int32) (lS : Int32) (ln : Nat → Int32) : Int32 × (Nat → Int32) :=
  (((F_X5_add ((8 : Int32) + k) lS ln).1), ((F_X5_add ((8 : Int32) + k) lS ln).2))
abbrev rm_X5_addA : Room := { frames := 1, cells := 0, slots := 0, locals := 21 }
set_option maxRecDepth 20000 in
theorem mm_X5_addA_iX5 : Cond.initialized RX5 ∈ wsX5_addA := by decide +kernel
set_option maxRecDepth 20000 in
theorem mm_X5_addA_l19 : Cond.methodLink RX5 19 yX5_add ∈ wsX5_addA := by decide +kernel
set_option maxRecDepth 20000 in
theorem mm_X5_addA_nX5_add : Cond.instanceMethod yX5_add ∈ wsX5_addA := by decide +kernel
set_option maxRecDepth 20000 in
theorem mm_X5_addA_sX5_add : Cond.selects RX5 yX5_add yX5_add ∈ wsX5_addA := by decide +kernel
set_option maxHeartbeats 4000000 in
set_option maxRecDepth 100000 in
theorem w_X5_addA {p : Program} {l : Launch} {e : Env} {s : State} {m : MethodId} {below : List Frame} {meth : Method} {c : Code} {args : Array Value} (dC : Nat → ClassId) (dI : Nat → Nat → Nat) (cI cJ : ClassId) (hL l1 : Nat) (k : Int32) (lS : Int32) (ln : Nat → Int32) {w0 : va_W} (C0 : Cx p s m meth c cX5_addA 2 none wsX5_addA RX5 args) (hK : va_K (dC, dI) vwCl [(cI, .int), (cJ, .long)] s) (hZ : Zs false (va_A w0 s.heap.size) s s.heap) (hn : LOk lS ln) {V : Int32 × (Nat → Int32)} (hV : (F_X5_addA k lS ln ) = V) (ls : Array Slot) (hl : lv_has ls 2 [(0, .ref hL), (1, .int k)]) {H : Heap} {locs : List Loc} (hP : va_P (dC, dI) vwCl [(hL, .inr (3, [.ref l1, .int lS])), (l1, .inl (cI, 3, .inl ln))] H) (hD : va_D (va_A w0 s.heap.size) [(hL, .inr (3, [.ref l1, .int lS])), (l1, .inl (cI, 3, .inl ln))]) (hS : va_S (va_A w0 s.heap.size) s.heap H locs) : W p l e rm_X5_addA s m args below meth c H locs 0 0 (MQ below (QV (dC, dI) [(cI, .int), (cJ, .long)] w0 [(hL, .inr (3, [.ref l1, .int V.1])), (l1, .inl (cI, 3, .inl V.2))] s.heap.size) args s 0 0 (va_A w0 s.heap.size)) (F0 m 0 ls []) := by
  obtain ⟨hx, hb, hr, hlk, hml, hown, hts⟩ := id C0
  have hA : ∀ q : Nat, s.heap.size ≤ q → va_A w0 s.heap.size q := fun q h => Or.inr h
  refine lv_aload_n hx hb dX5_addA_0 rfl (lv_at hl 0 rfl) ?_
  refine lv_bipush (v := (8 : Int32)) hx hb dX5_addA_1 (by decide) ?_
  refine lv_iload_n hx hb dX5_addA_3 rfl (lv_at hl 1 rfl) ?_
  refine lv_iadd hx hb dX5_addA_4 ?_
  refine wrVv (As := [.int ((8 : Int32) + k)]) (rest := []) (bytes := cX5_add) (maxL := 2) (rty := none) (n := 1) (ci := 3) C0 (c_X5_add l dC dI cI cJ hL l1 ((8 : Int32) + k) lS ln hn) ⟨rfl, rfl, rfl, by decide +kernel, by decide, by decide⟩ ggX5_addA_X5_add mm_X5_addA_iX5 mm_X5_addA_l19 mm_X5_addA_nX5_add mm_X5_addA_sX5_add rfl rfl hP hD hK hS hA (Zs.no _ _ _) [0, 1] [] [0, 1] [] [(hL, .inr (3, [.ref l1, .int ((F_X5_add ((8 : Int32) + k) lS ln).1)])), (l1, .inl (cI, 3, .inl ((F_X5_add ((8 : Int32) + k) lS ln).2)))] rfl (by decide) (hP.sub (ws' := [(hL, .inr (3, [.ref l1, .int lS])), (l1, .inl (cI, 3, .inl ln))]) [0, 1] rfl) rfl (by decide) (by decide) (by decide) rfl hl.1 rfl rfl (Nat.le_of_ble_eq_true rfl) dX5_addA_5 ⟨Nat.zero_le _, Nat.zero_le _⟩ (fun H locs hP hD hS => ?_)
  have e9 : (F_X5_addA k lS ln ) = (((F_X5_add ((8 : Int32) + k) lS ln).1), ((F_X5_add ((8 : Int32) + k) lS ln).2)) := by rw [F_X5_addA]
  rw [e9] at hV
  subst hV
  exact wrRetV C0 hK hP hD hS dX5_addA_8
theorem c_X5_addA (l : Launch) (dC : Nat → ClassId) (dI : Nat → Nat → Nat) (cI cJ : ClassId) (hL l1 : Nat) (k : Int32) (lS : Int32) (ln : Nat → Int32) (hn : LOk lS ln) : WrV false l yX5_addA wsX5_addA rm_X5_addA (dC, dI) [(cI, .int), (cJ, .long)] [(hL, .inr (3, [.ref l1, .int lS])), (l1, .inl (cI, 3, .inl ln))] [(hL, .inr (3, [.ref l1, .int ((F_X5_addA k lS ln ).1)])), (l1, .inl (cI, 3, .inl ((F_X5_addA k lS ln ).2)))] [.ref hL, .int k] := by
  refine WrV.mk (cc := cX5_addA) (nL := 2) (ret := none) [(0, .ref hL), (1, .int k)] (by decide) rfl (Nat.le_of_ble_eq_true rfl) rfl ?_
  intro p e s m below meth c C0 hP hK hD hS hZ ls hl
  exact w_X5_addA dC dI cI cJ hL l1 k lS ln C0 hK hZ hn rfl ls hl hP hD hS

-- X5_addB
def F_X5_addB (k : Int32) (lS : Int32) (ln : Nat → Int32) : Int32 × (Nat → Int32) :=
  (((F_X5_add ((16 : Int32) + k) lS ln).1), ((F_X5_add ((16 : Int32) + k) lS ln).2))
abbrev rm_X5_addB : Room := { frames := 1, cells := 0, slots := 0, locals := 21 }
set_option maxRecDepth 20000 in
theorem mm_X5_addB_iX5 : Cond.initialized RX5 ∈ wsX5_addB := by decide +kernel
set_option maxRecDepth 20000 in
theorem mm_X5_addB_l19 : Cond.methodLink RX5 19 yX5_add ∈ wsX5_addB := by decide +kernel
set_option maxRecDepth 20000 in
theorem mm_X5_addB_nX5_add : Cond.instanceMethod yX5_add ∈ wsX5_addB := by decide +kernel
set_option maxRecDepth 20000 in
theorem mm_X5_addB_sX5_add : Cond.selects RX5 yX5_add yX5_add ∈ wsX5_addB := by decide +kernel
set_option maxHeartbeats 4000000 in
set_option maxRecDepth 100000 in
theorem w_X5_addB {p : Program} {l : Launch} {e : Env} {s : State} {m : MethodId} {below : List Frame} {meth : Method} {c : Code} {args : Array Value} (dC : Nat → ClassId) (dI : Nat → Nat → Nat) (cI cJ : ClassId) (hL l1 : Nat) (k : Int32) (lS : Int32) (ln : Nat → Int32) {w0 : va_W} (C0 : Cx p s m meth c cX5_addB 2 none wsX5_addB RX5 args) (hK : va_K (dC, dI) vwCl [(cI, .int), (cJ, .long)] s) (hZ : Zs false (va_A w0 s.heap.size) s s.heap) (hn : LOk lS ln) {V : Int32 × (Nat → Int32)} (hV : (F_X5_addB k lS ln ) = V) (ls : Array Slot) (hl : lv_has ls 2 [(0, .ref hL), (1, .int k)]) {H : Heap} {locs : List Loc} (hP : va_P (dC, dI) vwCl [(hL, .inr (3, [.ref l1, .int lS])), (l1, .inl (cI, 3, .inl ln))] H) (hD : va_D (va_A w0 s.heap.size) [(hL, .inr (3, [.ref l1, .int lS])), (l1, .inl (cI, 3, .inl ln))]) (hS : va_S (va_A w0 s.heap.size) s.heap H locs) : W p l e rm_X5_addB s m args below meth c H locs 0 0 (MQ below (QV (dC, dI) [(cI, .int), (cJ, .long)] w0 [(hL, .inr (3, [.ref l1, .int V.1])), (l1, .inl (cI, 3, .inl V.2))] s.heap.size) args s 0 0 (va_A w0 s.heap.size)) (F0 m 0 ls []) := by
  obtain ⟨hx, hb, hr, hlk, hml, hown, hts⟩ := id C0
  have hA : ∀ q : Nat, s.heap.size ≤ q → va_A w0 s.heap.size q := fun q h => Or.inr h
  refine lv_aload_n hx hb dX5_addB_0 rfl (lv_at hl 0 rfl) ?_
  refine lv_bipush (v := (16 : Int32)) hx hb dX5_addB_1 (by decide) ?_
  refine lv_iload_n hx hb dX5_addB_3 rfl (lv_at hl 1 rfl) ?_
  refine lv_iadd hx hb dX5_addB_4 ?_
  refine wrVv (As := [.int ((16 : Int32) + k)]) (rest := []) (bytes := cX5_add) (maxL := 2) (rty := none) (n := 1) (ci := 3) C0 (c_X5_add l dC dI cI cJ hL l1 ((16 : Int32) + k) lS ln hn) ⟨rfl, rfl, rfl, by decide +kernel, by decide, by decide⟩ ggX5_addB_X5_add mm_X5_addB_iX5 mm_X5_addB_l19 mm_X5_addB_nX5_add mm_X5_addB_sX5_add rfl rfl hP hD hK hS hA (Zs.no _ _ _) [0, 1] [] [0, 1] [] [(hL, .inr (3, [.ref l1, .int ((F_X5_add ((16 : Int32) + k) lS ln).1)])), (l1, .inl (cI, 3, .inl ((F_X5_add ((16 : Int32) + k) lS ln).2)))] rfl (by decide) (hP.sub (ws' := [(hL, .inr (3, [.ref l1, .int lS])), (l1, .inl (cI, 3, .inl ln))]) [0, 1] rfl) rfl (by decide) (by decide) (by decide) rfl hl.1 rfl rfl (Nat.le_of_ble_eq_true rfl) dX5_addB_5 ⟨Nat.zero_le _, Nat.zero_le _⟩ (fun H locs hP hD hS => ?_)
  have e9 : (F_X5_addB k lS ln ) = (((F_X5_add ((16 : Int32) + k) lS ln).1), ((F_X5_add ((16 : Int32) + k) lS ln).2)) := by rw [F_X5_addB]
  rw [e9] at hV
  subst hV
  exact wrRetV C0 hK hP hD hS dX5_addB_8
theorem c_X5_addB (l : Launch) (dC : Nat → ClassId) (dI : Nat → Nat → Nat) (cI cJ : ClassId) (hL l1 : Nat) (k : Int32) (lS : Int32) (ln : Nat → Int32) (hn : LOk lS ln) : WrV false l yX5_addB wsX5_addB rm_X5_addB (dC, dI) [(cI, .int), (cJ, .long)] [(hL, .inr (3, [.ref l1, .int lS])), (l1, .inl (cI, 3, .inl ln))] [(hL, .inr (3, [.ref l1, .int ((F_X5_addB k lS ln ).1)])), (l1, .inl (cI, 3, .inl ((F_X5_addB k lS ln ).2)))] [.ref hL, .int k] := by
  refine WrV.mk (cc := cX5_addB) (nL := 2) (ret := none) [(0, .ref hL), (1, .int k)] (by decide) rfl (Nat.le_of_ble_eq_true rfl) rfl ?_
  intro p e s m below meth c C0 hP hK hD hS hZ ls hl
  exact w_X5_addB dC dI cI cJ hL l1 k lS ln C0 hK hZ hn rfl ls hl hP hD hS

-- X5_latestIn
def F_X5_latestIn_4 (lS : Int32) (ln : Nat → Int32) (qf : Nat → Int32) : Nat → Int32 → Int32 → Int32
  | 0, v2, v3 => 0
  | fuel + 1, v2, v3 => (if lS ≤ v3 then v2 else (F_X5_latestIn_4 lS ln qf fuel (if v2 < (qf (ln v3.toNatClampNeg).toNatClampNeg) then (qf (ln v3.toNatClampNeg).toNatClampNeg) else v2) (v3 + (1 : Int32))))
def F_X5_latestIn (lS : Int32) (ln : Nat → Int32) (qf : Nat → Int32) : Int32 :=
  (F_X5_latestIn_4 lS ln qf 4 (0 : Int32) (0 : Int32))
abbrev rm_X5_latestIn : Room := { frames := 1, cells := 0, slots := 0, locals := 21 }
set_option maxRecDepth 20000 in
theorem mi_X5_latestIn_X5 : ∀ w ∈ wsX50, w ∈ wsX5_latestIn := by decide +kernel
set_option maxRecDepth 20000 in
theorem mm_X5_latestIn_c_max : Cond.code Lib.Math.max.name Lib.Math.max.code 2 (some .int) ∈ wsX5_latestIn := by decide +kernel
set_option maxRecDepth 20000 in
theorem mm_X5_latestIn_f11 : Cond.fieldLink RX5 11 "ScoreboardCore$RegisterList" "numbers" "[I" ∈ wsX5_latestIn := by decide +kernel
set_option maxRecDepth 20000 in
theorem mm_X5_latestIn_f15 : Cond.fieldLink RX5 15 "ScoreboardCore$RegisterList" "size" "I" ∈ wsX5_latestIn := by decide +kernel
set_option maxRecDepth 20000 in
theorem mm_X5_latestIn_im : Cond.initialized "java/lang/Math" ∈ wsX5_latestIn := by decide +kernel
set_option maxRecDepth 20000 in
theorem mm_X5_latestIn_l23 : Cond.methodLink RX5 23 Lib.Math.max.name ∈ wsX5_latestIn := by decide +kernel
set_option maxRecDepth 20000 in
theorem mm_X5_latestIn_st_max : Cond.static Lib.Math.max.name ∈ wsX5_latestIn := by decide +kernel
set_option maxHeartbeats 4000000 in
set_option maxRecDepth 100000 in
theorem j_X5_latestIn_4 {p : Program} {l : Launch} {e : Env} {s : State} {m : MethodId} {below : List Frame} {meth : Method} {c : Code} {args : Array Value} (dC : Nat → ClassId) (dI : Nat → Nat → Nat) (cI cJ : ClassId) (hL l1 q1 : Nat) (lS : Int32) (ln : Nat → Int32) (qf : Nat → Int32) (C0 : Cx p s m meth c cX5_latestIn 4 (some .int) wsX5_latestIn RX5 args) (hK : va_K (dC, dI) vwCl [(cI, .int), (cJ, .long)] s) (hP : va_P (dC, dI) vwCl [(hL, .inr (3, [.ref l1, .int lS])), (l1, .inl (cI, 3, .inl ln)), (q1, .inl (cI, 24, .inl qf))] s.heap) (hn : LOk lS ln) {V : Int32} : ∀ (fuel : Nat) (v2 : Int32) (v3 : Int32), Lp lS v3 fuel → (F_X5_latestIn_4 lS ln qf fuel v2 v3) = V → ∀ ls : Array Slot, lv_has ls 4 [(0, .ref hL), (1, .ref q1), (2, .int v2), (3, .int v3)] → W p l e rm_X5_latestIn s m args below meth c s.heap [] 0 0 (MQ below (vp_Si (fun r => r = V)) args s 0 0 (fun _ => False)) (F0 m 4 ls []) := by
  obtain ⟨hx, hb, hr, hlk, hml, hown, hts⟩ := id C0
  intro fuel
  induction fuel with
  | zero =>
    intro v2 v3 g0
    exact absurd g0 (by exact Lp.zero)
  | succ fuel ih =>
    intro v2 v3 g0 hV ls hl
    refine lv_iload_n hx hb dX5_latestIn_4 rfl (lv_at hl 3 rfl) ?_
    refine lv_aload_n hx hb dX5_latestIn_5 rfl (lv_at hl 0 rfl) ?_
    refine va_get (D := (dC, dI)) (ci := 3) (v := .int lS) (C := RX5) (T := TX5) (N := 2) hx hb hts mi_X5_latestIn_X5 hown hK hP 0 rfl rfl 1 (by decide) (hts (.fieldLink RX5 15 "ScoreboardCore$RegisterList" "size" "I") mm_X5_latestIn_f15) (fun _ h9 => h9) rfl dX5_latestIn_6 ?_
    refine lv_icmp_ge (x := v3) (y := lS) (tgt := 31) hx hb dX5_latestIn_9 (by decide) (fun c1 => ?_) (fun c1 => ?_)
    · refine lv_iload_n hx hb dX5_latestIn_31 rfl (lv_at hl 2 rfl) ?_
      have e9 : (F_X5_latestIn_4 lS ln qf (fuel + 1) v2 v3) = v2 := by rw [F_X5_latestIn_4, if_pos c1]
      rw [e9] at hV
      subst hV
      exact roRetI C0 rfl dX5_latestIn_32
    · refine lv_iload_n hx hb dX5_latestIn_12 rfl (lv_at hl 2 rfl) ?_
      refine lv_aload_n hx hb dX5_latestIn_13 rfl (lv_at hl 1 rfl) ?_
      refine lv_aload_n hx hb dX5_latestIn_14 rfl (lv_at hl 0 rfl) ?_
      refine va_get (D := (dC, dI)) (ci := 3) (v := .ref l1) (C := RX5) (T := TX5) (N := 2) hx hb hts mi_X5_latestIn_X5 hown hK hP 0 rfl rfl 0 (by decide) (hts (.fieldLink RX5 11 "ScoreboardCore$RegisterList" "numbers" "[I") mm_X5_latestIn_f11) (fun _ h9 => h9) rfl dX5_latestIn_15 ?_
      refine lv_iload_n hx hb dX5_latestIn_18 rfl (lv_at hl 3 rfl) ?_
      refine va_iald (D := (dC, dI)) hx hb hK hP 1 0 rfl rfl (hn.inl g0 c1) dX5_latestIn_19 ?_
      refine va_iald (D := (dC, dI)) hx hb hK hP 2 0 rfl rfl (hn.num g0 c1) dX5_latestIn_20 ?_
      refine va_mmax hx hb (by rw [hml]; exact hl.1.symm) hown (hts _ mm_X5_latestIn_l23) (hts _ mm_X5_latestIn_st_max) (hts _ mm_X5_latestIn_im) (hts _ mm_X5_latestIn_c_max) (Nat.le_of_ble_eq_true rfl) (Nat.le_of_ble_eq_true rfl) (Nat.zero_le _) (Nat.zero_le _) dX5_latestIn_21 ?_
      refine lv_istore_n (lv' := [(2, .int (if v2 < (qf (ln v3.toNatClampNeg).toNatClampNeg) then (qf (ln v3.toNatClampNeg).toNatClampNeg) else v2)), (0, .ref hL), (1, .ref q1), (3, .int v3)]) hx hb dX5_latestIn_24 rfl hl (by decide) rfl (fun ls hl => ?_)
      refine lv_iinc (v := (v3 + (1 : Int32))) (lv' := [(3, .int (v3 + (1 : Int32))), (2, .int (if v2 < (qf (ln v3.toNatClampNeg).toNatClampNeg) then (qf (ln v3.toNatClampNeg).toNatClampNeg) else v2)), (0, .ref hL), (1, .ref q1)]) hx hb dX5_latestIn_25 hl (k := 3) rfl rfl (by decide) rfl (fun ls hl => ?_)
      refine lv_goto (tgt := 4) hx hb dX5_latestIn_28 (by decide) ?_
      have e9 : (F_X5_latestIn_4 lS ln qf (fuel + 1) v2 v3) = (F_X5_latestIn_4 lS ln qf fuel (if v2 < (qf (ln v3.toNatClampNeg).toNatClampNeg) then (qf (ln v3.toNatClampNeg).toNatClampNeg) else v2) (v3 + (1 : Int32))) := by rw [F_X5_latestIn_4, if_neg c1]
      rw [e9] at hV
      exact ih (if v2 < (qf (ln v3.toNatClampNeg).toNatClampNeg) then (qf (ln v3.toNatClampNeg).toNatClampNeg) else v2) (v3 + (1 : Int32)) (Lp.step g0 c1) hV ls (lv_sub hl [2, 3, 1, 0] rfl)
set_option maxHeartbeats 4000000 in
set_option maxRecDepth 100000 in
theorem w_X5_latestIn {p : Program} {l : Launch} {e : Env} {s : State} {m : MethodId} {below : List Frame} {meth : Method} {c : Code} {args : Array Value} (dC : Nat → ClassId) (dI : Nat → Nat → Nat) (cI cJ : ClassId) (hL l1 q1 : Nat) (lS : Int32) (ln : Nat → Int32) (qf : Nat → Int32) (C0 : Cx p s m meth c cX5_latestIn 4 (some .int) wsX5_latestIn RX5 args) (hK : va_K (dC, dI) vwCl [(cI, .int), (cJ, .long)] s) (hP : va_P (dC, dI) vwCl [(hL, .inr (3, [.ref l1, .int lS])), (l1, .inl (cI, 3, .inl ln)), (q1, .inl (cI, 24, .inl qf))] s.heap) (hn : LOk lS ln) {V : Int32} (hV : (F_X5_latestIn lS ln qf ) = V) (ls : Array Slot) (hl : lv_has ls 4 [(0, .ref hL), (1, .ref q1)]) : W p l e rm_X5_latestIn s m args below meth c s.heap [] 0 0 (MQ below (vp_Si (fun r => r = V)) args s 0 0 (fun _ => False)) (F0 m 0 ls []) := by
  obtain ⟨hx, hb, hr, hlk, hml, hown, hts⟩ := id C0
  refine lv_iconst (v := (0 : Int32)) hx hb dX5_latestIn_0 (by decide) ?_
  refine lv_istore_n (lv' := [(2, .int (0 : Int32)), (0, .ref hL), (1, .ref q1)]) hx hb dX5_latestIn_1 rfl hl (by decide) rfl (fun ls hl => ?_)
  refine lv_iconst (v := (0 : Int32)) hx hb dX5_latestIn_2 (by decide) ?_
  refine lv_istore_n (lv' := [(3, .int (0 : Int32)), (2, .int (0 : Int32)), (0, .ref hL), (1, .ref q1)]) hx hb dX5_latestIn_3 rfl hl (by decide) rfl (fun ls hl => ?_)
  have e9 : (F_X5_latestIn lS ln qf ) = (F_X5_latestIn_4 lS ln qf 4 (0 : Int32) (0 : Int32)) := by rw [F_X5_latestIn]
  rw [e9] at hV
  exact j_X5_latestIn_4 dC dI cI cJ hL l1 q1 lS ln qf C0 hK hP hn 4 (0 : Int32) (0 : Int32) (hn.lp) hV ls (lv_sub hl [2, 3, 1, 0] rfl)
theorem c_X5_latestIn (l : Launch) (dC : Nat → ClassId) (dI : Nat → Nat → Nat) (cI cJ : ClassId) (hL l1 q1 : Nat) (lS : Int32) (ln : Nat → Int32) (qf : Nat → Int32) (hn : LOk lS ln) : RoI l yX5_latestIn wsX5_latestIn rm_X5_latestIn (dC, dI) [(cI, .int), (cJ, .long)] [(hL, .inr (3, [.ref l1, .int lS])), (l1, .inl (cI, 3, .inl ln)), (q1, .inl (cI, 24, .inl qf))] [.ref hL, .ref q1] (F_X5_latestIn lS ln qf ) := by
  refine RoI.mk (cc := cX5_latestIn) (nL := 4) (ret := (some .int)) [(0, .ref hL), (1, .ref q1)] (by decide) rfl (Nat.le_of_ble_eq_true rfl) rfl ?_
  intro p e s m below meth c C0 hP hK ls hl
  exact w_X5_latestIn dC dI cI cJ hL l1 q1 lS ln qf C0 hK hP hn rfl ls hl

-- X5_raiseIn
def F_X5_raiseIn_2 (lS : Int32) (ln : Nat → Int32) : Nat → Int32 → Int32 → (Nat → Int32) → (Nat → Int32)
  | 0, v2, v3, qf' => qf'
  | fuel + 1, v2, v3, qf' => (if lS ≤ v3 then qf' else (F_X5_raiseIn_2 lS ln fuel v2 (v3 + (1 : Int32)) (upd qf' (ln v3.toNatClampNeg).toNatClampNeg (if (qf' (ln v3.toNatClampNeg).toNatClampNeg) < v2 then v2 else (qf' (ln v3.toNatClampNeg).toNatClampNeg)))))
def F_X5_raiseIn (k : Int32) (lS : Int32) (ln : Nat → Int32) (qf : Nat → Int32) : (Nat → Int32) :=
  (F_X5_raiseIn_2 lS ln 4 k (0 : Int32) qf)
abbrev rm_X5_raiseIn : Room := { frames := 1, cells := 0, slots := 0, locals := 21 }
set_option maxRecDepth 20000 in
theorem mi_X5_raiseIn_X5 : ∀ w ∈ wsX50, w ∈ wsX5_raiseIn := by decide +kernel
set_option maxRecDepth 20000 in
theorem mm_X5_raiseIn_c_max : Cond.code Lib.Math.max.name Lib.Math.max.code 2 (some .int) ∈ wsX5_raiseIn := by decide +kernel
set_option maxRecDepth 20000 in
theorem mm_X5_raiseIn_f11 : Cond.fieldLink RX5 11 "ScoreboardCore$RegisterList" "numbers" "[I" ∈ wsX5_raiseIn := by decide +kernel
set_option maxRecDepth 20000 in
theorem mm_X5_raiseIn_f15 : Cond.fieldLink RX5 15 "ScoreboardCore$RegisterList" "size" "I" ∈ wsX5_raiseIn := by decide +kernel
set_option maxRecDepth 20000 in
theorem mm_X5_raiseIn_im : Cond.initialized "java/lang/Math" ∈ wsX5_raiseIn := by decide +kernel
set_option maxRecDepth 20000 in
theorem mm_X5_raiseIn_l23 : Cond.methodLink RX5 23 Lib.Math.max.name ∈ wsX5_raiseIn := by decide +kernel
set_option maxRecDepth 20000 in
theorem mm_X5_raiseIn_st_max : Cond.static Lib.Math.max.name ∈ wsX5_raiseIn := by decide +kernel
set_option maxHeartbeats 4000000 in
set_option maxRecDepth 100000 in
theorem j_X5_raiseIn_2 {p : Program} {l : Launch} {e : Env} {s : State} {m : MethodId} {below : List Frame} {meth : Method} {c : Code} {args : Array Value} (dC : Nat → ClassId) (dI : Nat → Nat → Nat) (cI cJ : ClassId) (hL l1 q1 : Nat) (k : Int32) (lS : Int32) (ln : Nat → Int32) (qf : Nat → Int32) {w0 : va_W} (C0 : Cx p s m meth c cX5_raiseIn 5 none wsX5_raiseIn RX5 args) (hK : va_K (dC, dI) vwCl [(cI, .int), (cJ, .long)] s) (hZ : Zs false (va_A w0 s.heap.size) s s.heap) (hn : LOk lS ln) {V : (Nat → Int32)} : ∀ (fuel : Nat) (v2 : Int32) (v3 : Int32) (qf' : Nat → Int32), Lp lS v3 fuel → (F_X5_raiseIn_2 lS ln fuel v2 v3 qf') = V → ∀ ls : Array Slot, lv_has ls 5 [(0, .ref hL), (1, .ref q1), (2, .int v2), (3, .int v3)] → ∀ {H : Heap} {locs : List Loc}, va_P (dC, dI) vwCl [(hL, .inr (3, [.ref l1, .int lS])), (l1, .inl (cI, 3, .inl ln)), (q1, .inl (cI, 24, .inl qf'))] H → va_D (va_A w0 s.heap.size) [(hL, .inr (3, [.ref l1, .int lS])), (l1, .inl (cI, 3, .inl ln)), (q1, .inl (cI, 24, .inl qf'))] → va_S (va_A w0 s.heap.size) s.heap H locs → W p l e rm_X5_raiseIn s m args below meth c H locs 0 0 (MQ below (QV (dC, dI) [(cI, .int), (cJ, .long)] w0 [(hL, .inr (3, [.ref l1, .int lS])), (l1, .inl (cI, 3, .inl ln)), (q1, .inl (cI, 24, .inl V))] s.heap.size) args s 0 0 (va_A w0 s.heap.size)) (F0 m 2 ls []) := by
  obtain ⟨hx, hb, hr, hlk, hml, hown, hts⟩ := id C0
  have hA : ∀ q : Nat, s.heap.size ≤ q → va_A w0 s.heap.size q := fun q h => Or.inr h
  intro fuel
  induction fuel with
  | zero =>
    intro v2 v3 qf' g0
    exact absurd g0 (by exact Lp.zero)
  | succ fuel ih =>
    intro v2 v3 qf' g0 hV ls hl H locs hP hD hS
    refine lv_iload_n hx hb dX5_raiseIn_2 rfl (lv_at hl 3 rfl) ?_
    refine lv_aload_n hx hb dX5_raiseIn_3 rfl (lv_at hl 0 rfl) ?_
    refine va_get (D := (dC, dI)) (ci := 3) (v := .int lS) (C := RX5) (T := TX5) (N := 2) hx hb hts mi_X5_raiseIn_X5 hown hK hP 0 rfl rfl 1 (by decide) (hts (.fieldLink RX5 15 "ScoreboardCore$RegisterList" "size" "I") mm_X5_raiseIn_f15) (fun _ h9 => h9) rfl dX5_raiseIn_4 ?_
    refine lv_icmp_ge (x := v3) (y := lS) (tgt := 36) hx hb dX5_raiseIn_7 (by decide) (fun c1 => ?_) (fun c1 => ?_)
    · have e9 : (F_X5_raiseIn_2 lS ln (fuel + 1) v2 v3 qf') = qf' := by rw [F_X5_raiseIn_2, if_pos c1]
      rw [e9] at hV
      subst hV
      exact wrRetV C0 hK hP hD hS dX5_raiseIn_36
    · refine lv_aload_n hx hb dX5_raiseIn_10 rfl (lv_at hl 0 rfl) ?_
      refine va_get (D := (dC, dI)) (ci := 3) (v := .ref l1) (C := RX5) (T := TX5) (N := 2) hx hb hts mi_X5_raiseIn_X5 hown hK hP 0 rfl rfl 0 (by decide) (hts (.fieldLink RX5 11 "ScoreboardCore$RegisterList" "numbers" "[I") mm_X5_raiseIn_f11) (fun _ h9 => h9) rfl dX5_raiseIn_11 ?_
      refine lv_iload_n hx hb dX5_raiseIn_14 rfl (lv_at hl 3 rfl) ?_
      refine va_iald (D := (dC, dI)) hx hb hK hP 1 0 rfl rfl (hn.inl g0 c1) dX5_raiseIn_15 ?_
      refine lv_istore (lv' := [(4, .int (ln v3.toNatClampNeg)), (0, .ref hL), (1, .ref q1), (2, .int v2), (3, .int v3)]) hx hb dX5_raiseIn_16 hl (by decide) rfl (fun ls hl => ?_)
      refine lv_aload_n hx hb dX5_raiseIn_18 rfl (lv_at hl 2 rfl) ?_
      refine lv_iload hx hb dX5_raiseIn_19 (lv_at hl 0 rfl) ?_
      refine lv_aload_n hx hb dX5_raiseIn_21 rfl (lv_at hl 2 rfl) ?_
      refine lv_iload hx hb dX5_raiseIn_22 (lv_at hl 0 rfl) ?_
      refine va_iald (D := (dC, dI)) hx hb hK hP 2 0 rfl rfl (hn.num g0 c1) dX5_raiseIn_24 ?_
      refine lv_iload_n hx hb dX5_raiseIn_25 rfl (lv_at hl 3 rfl) ?_
      refine va_mmax hx hb (by rw [hml]; exact hl.1.symm) hown (hts _ mm_X5_raiseIn_l23) (hts _ mm_X5_raiseIn_st_max) (hts _ mm_X5_raiseIn_im) (hts _ mm_X5_raiseIn_c_max) (Nat.le_of_ble_eq_true rfl) (Nat.le_of_ble_eq_true rfl) (Nat.zero_le _) (Nat.zero_le _) dX5_raiseIn_26 ?_
      refine va_iast (D := (dC, dI)) hx hb hK hP hD hS 2 0 rfl rfl (hn.num g0 c1) dX5_raiseIn_29 (fun H locs hP hD hS => ?_)
      have hP : va_P (dC, dI) vwCl [(hL, .inr (3, [.ref l1, .int lS])), (l1, .inl (cI, 3, .inl ln)), (q1, .inl (cI, 24, .inl (upd qf' (ln v3.toNatClampNeg).toNatClampNeg (if (qf' (ln v3.toNatClampNeg).toNatClampNeg) < v2 then v2 else (qf' (ln v3.toNatClampNeg).toNatClampNeg)))))] H := hP
      have hD : va_D (va_A w0 s.heap.size) [(hL, .inr (3, [.ref l1, .int lS])), (l1, .inl (cI, 3, .inl ln)), (q1, .inl (cI, 24, .inl (upd qf' (ln v3.toNatClampNeg).toNatClampNeg (if (qf' (ln v3.toNatClampNeg).toNatClampNeg) < v2 then v2 else (qf' (ln v3.toNatClampNeg).toNatClampNeg)))))] := hD
      refine lv_iinc (v := (v3 + (1 : Int32))) (lv' := [(3, .int (v3 + (1 : Int32))), (4, .int (ln v3.toNatClampNeg)), (0, .ref hL), (1, .ref q1), (2, .int v2)]) hx hb dX5_raiseIn_30 hl (k := 4) rfl rfl (by decide) rfl (fun ls hl => ?_)
      refine lv_goto (tgt := 2) hx hb dX5_raiseIn_33 (by decide) ?_
      have e9 : (F_X5_raiseIn_2 lS ln (fuel + 1) v2 v3 qf') = (F_X5_raiseIn_2 lS ln fuel v2 (v3 + (1 : Int32)) (upd qf' (ln v3.toNatClampNeg).toNatClampNeg (if (qf' (ln v3.toNatClampNeg).toNatClampNeg) < v2 then v2 else (qf' (ln v3.toNatClampNeg).toNatClampNeg)))) := by rw [F_X5_raiseIn_2, if_neg c1]
      rw [e9] at hV
      exact ih v2 (v3 + (1 : Int32)) (upd qf' (ln v3.toNatClampNeg).toNatClampNeg (if (qf' (ln v3.toNatClampNeg).toNatClampNeg) < v2 then v2 else (qf' (ln v3.toNatClampNeg).toNatClampNeg))) (Lp.step g0 c1) hV ls (lv_sub hl [2, 3, 4, 0] rfl) hP hD hS
set_option maxHeartbeats 4000000 in
set_option maxRecDepth 100000 in
theorem w_X5_raiseIn {p : Program} {l : Launch} {e : Env} {s : State} {m : MethodId} {below : List Frame} {meth : Method} {c : Code} {args : Array Value} (dC : Nat → ClassId) (dI : Nat → Nat → Nat) (cI cJ : ClassId) (hL l1 q1 : Nat) (k : Int32) (lS : Int32) (ln : Nat → Int32) (qf : Nat → Int32) {w0 : va_W} (C0 : Cx p s m meth c cX5_raiseIn 5 none wsX5_raiseIn RX5 args) (hK : va_K (dC, dI) vwCl [(cI, .int), (cJ, .long)] s) (hZ : Zs false (va_A w0 s.heap.size) s s.heap) (hn : LOk lS ln) {V : (Nat → Int32)} (hV : (F_X5_raiseIn k lS ln qf ) = V) (ls : Array Slot) (hl : lv_has ls 5 [(0, .ref hL), (1, .ref q1), (2, .int k)]) {H : Heap} {locs : List Loc} (hP : va_P (dC, dI) vwCl [(hL, .inr (3, [.ref l1, .int lS])), (l1, .inl (cI, 3, .inl ln)), (q1, .inl (cI, 24, .inl qf))] H) (hD : va_D (va_A w0 s.heap.size) [(hL, .inr (3, [.ref l1, .int lS])), (l1, .inl (cI, 3, .inl ln)), (q1, .inl (cI, 24, .inl qf))]) (hS : va_S (va_A w0 s.heap.size) s.heap H locs) : W p l e rm_X5_raiseIn s m args below meth c H locs 0 0 (MQ below (QV (dC, dI) [(cI, .int), (cJ, .long)] w0 [(hL, .inr (3, [.ref l1, .int lS])), (l1, .inl (cI, 3, .inl ln)), (q1, .inl (cI, 24, .inl V))] s.heap.size) args s 0 0 (va_A w0 s.heap.size)) (F0 m 0 ls []) := by
  obtain ⟨hx, hb, hr, hlk, hml, hown, hts⟩ := id C0
  have hA : ∀ q : Nat, s.heap.size ≤ q → va_A w0 s.heap.size q := fun q h => Or.inr h
  refine lv_iconst (v := (0 : Int32)) hx hb dX5_raiseIn_0 (by decide) ?_
  refine lv_istore_n (lv' := [(3, .int (0 : Int32)), (0, .ref hL), (1, .ref q1), (2, .int k)]) hx hb dX5_raiseIn_1 rfl hl (by decide) rfl (fun ls hl => ?_)
  have e9 : (F_X5_raiseIn k lS ln qf ) = (F_X5_raiseIn_2 lS ln 4 k (0 : Int32) qf) := by rw [F_X5_raiseIn]
  rw [e9] at hV
  exact j_X5_raiseIn_2 dC dI cI cJ hL l1 q1 k lS ln qf C0 hK hZ hn 4 k (0 : Int32) qf (hn.lp) hV ls (lv_sub hl [1, 2, 3, 0] rfl) hP hD hS
theorem c_X5_raiseIn (l : Launch) (dC : Nat → ClassId) (dI : Nat → Nat → Nat) (cI cJ : ClassId) (hL l1 q1 : Nat) (k : Int32) (lS : Int32) (ln : Nat → Int32) (qf : Nat → Int32) (hn : LOk lS ln) : WrV false l yX5_raiseIn wsX5_raiseIn rm_X5_raiseIn (dC, dI) [(cI, .int), (cJ, .long)] [(hL, .inr (3, [.ref l1, .int lS])), (l1, .inl (cI, 3, .inl ln)), (q1, .inl (cI, 24, .inl qf))] [(hL, .inr (3, [.ref l1, .int lS])), (l1, .inl (cI, 3, .inl ln)), (q1, .inl (cI, 24, .inl (F_X5_raiseIn k lS ln qf )))] [.ref hL, .ref q1, .int k] := by
  refine WrV.mk (cc := cX5_raiseIn) (nL := 5) (ret := none) [(0, .ref hL), (1, .ref q1), (2, .int k)] (by decide) rfl (Nat.le_of_ble_eq_true rfl) rfl ?_
  intro p e s m below meth c C0 hP hK hD hS hZ ls hl
  exact w_X5_raiseIn dC dI cI cJ hL l1 q1 k lS ln qf C0 hK hZ hn rfl ls hl hP hD hS
