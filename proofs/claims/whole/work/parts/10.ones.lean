-- X4_isShortNegative
def F_X4_isShortNegative (a : Int64) : Int32 :=
  (if a ≤ (131071 : Int64) then (0 : Int32) else (1 : Int32))
abbrev rm_X4_isShortNegative : Room := { frames := 0, cells := 0, slots := 0, locals := 0 }
set_option maxRecDepth 20000 in
theorem mm_X4_isShortNegative_k15 : Cond.constantLong RX4 15 (131071) ∈ wsX4_isShortNegative := by decide +kernel
set_option maxHeartbeats 4000000 in
set_option maxRecDepth 100000 in
theorem w_X4_isShortNegative {p : Program} {l : Launch} {e : Env} {s : State} {m : MethodId} {below : List Frame} {meth : Method} {c : Code} {args : Array Value} (dC : Nat → ClassId) (dI : Nat → Nat → Nat) (cI cJ : ClassId) (a : Int64) (C0 : Cx p s m meth c cX4_isShortNegative 2 (some .boolean) wsX4_isShortNegative RX4 args) (hK : va_K (dC, dI) vwCl [(cI, .int), (cJ, .long)] s) (hP : va_P (dC, dI) vwCl [] s.heap) {V : Int32} (hV : (F_X4_isShortNegative a ) = V) (ls : Array Slot) (hl : lv_has ls 2 [(0, .long a)]) : W p l e rm_X4_isShortNegative s m args below meth c s.heap [] 0 0 (MQ below (vp_Si (fun r => r = V)) args s 0 0 (fun _ => False)) (F0 m 0 ls []) := by
  obtain ⟨hx, hb, hr, hlk, hml, hown, hts⟩ := id C0
  refine lv_lload_n hx hb dX4_isShortNegative_0 rfl (lv_at hl 0 rfl) ?_
  refine lv_ldc2 (v := (131071 : Int64)) hx hb hown (hts _ mm_X4_isShortNegative_k15) dX4_isShortNegative_1 ?_
  refine lc_le (x := a) (y := (131071 : Int64)) (tgt := 12) hx hb dX4_isShortNegative_4 dX4_isShortNegative_5 (by decide) (fun c1 => ?_) (fun c1 => ?_)
  · refine lv_iconst (v := (0 : Int32)) hx hb dX4_isShortNegative_12 (by decide) ?_
    have e9 : (F_X4_isShortNegative a ) = (0 : Int32) := by rw [F_X4_isShortNegative, if_pos c1]
    rw [e9] at hV
    subst hV
    exact roRetZ C0 rfl rfl dX4_isShortNegative_13
  · refine lv_iconst (v := (1 : Int32)) hx hb dX4_isShortNegative_8 (by decide) ?_
    refine lv_goto (tgt := 13) hx hb dX4_isShortNegative_9 (by decide) ?_
    have e9 : (F_X4_isShortNegative a ) = (1 : Int32) := by rw [F_X4_isShortNegative, if_neg c1]
    rw [e9] at hV
    subst hV
    exact roRetZ C0 rfl rfl dX4_isShortNegative_13
theorem c_X4_isShortNegative (l : Launch) (dC : Nat → ClassId) (dI : Nat → Nat → Nat) (cI cJ : ClassId) (a : Int64) : RoI l yX4_isShortNegative wsX4_isShortNegative rm_X4_isShortNegative (dC, dI) [(cI, .int), (cJ, .long)] [] [.long a] (F_X4_isShortNegative a ) := by
  refine RoI.mk (cc := cX4_isShortNegative) (nL := 2) (ret := (some .boolean)) [(0, .long a)] (by decide) rfl (Nat.le_of_ble_eq_true rfl) rfl ?_
  intro p e s m below meth c C0 hP hK ls hl
  exact w_X4_isShortNegative dC dI cI cJ a C0 hK hP rfl ls hl

-- X4_isNegative
def F_X4_isNegative (a : Int64) : Int32 :=
  (if ((a >>> ((59 : Int32).toInt64 &&& 63)) &&& (1 : Int64)) = (0 : Int64) then (0 : Int32) else (1 : Int32))
abbrev rm_X4_isNegative : Room := { frames := 0, cells := 0, slots := 0, locals := 0 }
set_option maxHeartbeats 4000000 in
set_option maxRecDepth 100000 in
theorem w_X4_isNegative {p : Program} {l : Launch} {e : Env} {s : State} {m : MethodId} {below : List Frame} {meth : Method} {c : Code} {args : Array Value} (dC : Nat → ClassId) (dI : Nat → Nat → Nat) (cI cJ : ClassId) (a : Int64) (C0 : Cx p s m meth c cX4_isNegative 2 (some .boolean) wsX4_isNegative RX4 args) (hK : va_K (dC, dI) vwCl [(cI, .int), (cJ, .long)] s) (hP : va_P (dC, dI) vwCl [] s.heap) {V : Int32} (hV : (F_X4_isNegative a ) = V) (ls : Array Slot) (hl : lv_has ls 2 [(0, .long a)]) : W p l e rm_X4_isNegative s m args below meth c s.heap [] 0 0 (MQ below (vp_Si (fun r => r = V)) args s 0 0 (fun _ => False)) (F0 m 0 ls []) := by
  obtain ⟨hx, hb, hr, hlk, hml, hown, hts⟩ := id C0
  refine lv_lload_n hx hb dX4_isNegative_0 rfl (lv_at hl 0 rfl) ?_
  refine lv_bipush (v := (59 : Int32)) hx hb dX4_isNegative_1 (by decide) ?_
  refine lv_lshr hx hb dX4_isNegative_3 rfl ?_
  refine lv_lconst (v := (1 : Int64)) hx hb dX4_isNegative_4 (by decide) ?_
  refine lv_land hx hb dX4_isNegative_5 ?_
  refine lv_lconst (v := (0 : Int64)) hx hb dX4_isNegative_6 (by decide) ?_
  refine lc_eq (x := ((a >>> ((59 : Int32).toInt64 &&& 63)) &&& (1 : Int64))) (y := (0 : Int64)) (tgt := 15) hx hb dX4_isNegative_7 dX4_isNegative_8 (by decide) (fun c1 => ?_) (fun c1 => ?_)
  · refine lv_iconst (v := (0 : Int32)) hx hb dX4_isNegative_15 (by decide) ?_
    have e9 : (F_X4_isNegative a ) = (0 : Int32) := by rw [F_X4_isNegative, if_pos c1]
    rw [e9] at hV
    subst hV
    exact roRetZ C0 rfl rfl dX4_isNegative_16
  · refine lv_iconst (v := (1 : Int32)) hx hb dX4_isNegative_11 (by decide) ?_
    refine lv_goto (tgt := 16) hx hb dX4_isNegative_12 (by decide) ?_
    have e9 : (F_X4_isNegative a ) = (1 : Int32) := by rw [F_X4_isNegative, if_neg c1]
    rw [e9] at hV
    subst hV
    exact roRetZ C0 rfl rfl dX4_isNegative_16
theorem c_X4_isNegative (l : Launch) (dC : Nat → ClassId) (dI : Nat → Nat → Nat) (cI cJ : ClassId) (a : Int64) : RoI l yX4_isNegative wsX4_isNegative rm_X4_isNegative (dC, dI) [(cI, .int), (cJ, .long)] [] [.long a] (F_X4_isNegative a ) := by
  refine RoI.mk (cc := cX4_isNegative) (nL := 2) (ret := (some .boolean)) [(0, .long a)] (by decide) rfl (Nat.le_of_ble_eq_true rfl) rfl ?_
  intro p e s m below meth c C0 hP hK ls hl
  exact w_X4_isNegative dC dI cI cJ a C0 hK hP rfl ls hl

-- X4_isZero
def F_X4_isZero (a : Int64) : Int32 :=
  (if a = (0 : Int64) then (1 : Int32) else (if a = (1152921504606846975 : Int64) then (1 : Int32) else (0 : Int32)))
abbrev rm_X4_isZero : Room := { frames := 0, cells := 0, slots := 0, locals := 0 }
set_option maxRecDepth 20000 in
theorem mm_X4_isZero_k17 : Cond.constantLong RX4 17 (1152921504606846975) ∈ wsX4_isZero := by decide +kernel
set_option maxHeartbeats 4000000 in
set_option maxRecDepth 100000 in
theorem w_X4_isZero {p : Program} {l : Launch} {e : Env} {s : State} {m : MethodId} {below : List Frame} {meth : Method} {c : Code} {args : Array Value} (dC : Nat → ClassId) (dI : Nat → Nat → Nat) (cI cJ : ClassId) (a : Int64) (C0 : Cx p s m meth c cX4_isZero 2 (some .boolean) wsX4_isZero RX4 args) (hK : va_K (dC, dI) vwCl [(cI, .int), (cJ, .long)] s) (hP : va_P (dC, dI) vwCl [] s.heap) {V : Int32} (hV : (F_X4_isZero a ) = V) (ls : Array Slot) (hl : lv_has ls 2 [(0, .long a)]) : W p l e rm_X4_isZero s m args below meth c s.heap [] 0 0 (MQ below (vp_Si (fun r => r = V)) args s 0 0 (fun _ => False)) (F0 m 0 ls []) := by
  obtain ⟨hx, hb, hr, hlk, hml, hown, hts⟩ := id C0
  refine lv_lload_n hx hb dX4_isZero_0 rfl (lv_at hl 0 rfl) ?_
  refine lv_lconst (v := (0 : Int64)) hx hb dX4_isZero_1 (by decide) ?_
  refine lc_eq (x := a) (y := (0 : Int64)) (tgt := 14) hx hb dX4_isZero_2 dX4_isZero_3 (by decide) (fun c1 => ?_) (fun c1 => ?_)
  · refine lv_iconst (v := (1 : Int32)) hx hb dX4_isZero_14 (by decide) ?_
    refine lv_goto (tgt := 19) hx hb dX4_isZero_15 (by decide) ?_
    have e9 : (F_X4_isZero a ) = (1 : Int32) := by rw [F_X4_isZero, if_pos c1]
    rw [e9] at hV
    subst hV
    exact roRetZ C0 rfl rfl dX4_isZero_19
  · refine lv_lload_n hx hb dX4_isZero_6 rfl (lv_at hl 0 rfl) ?_
    refine lv_ldc2 (v := (1152921504606846975 : Int64)) hx hb hown (hts _ mm_X4_isZero_k17) dX4_isZero_7 ?_
    refine lc_ne (x := a) (y := (1152921504606846975 : Int64)) (tgt := 18) hx hb dX4_isZero_10 dX4_isZero_11 (by decide) (fun c2 => ?_) (fun c2 => ?_)
    · refine lv_iconst (v := (0 : Int32)) hx hb dX4_isZero_18 (by decide) ?_
      have e9 : (F_X4_isZero a ) = (0 : Int32) := by rw [F_X4_isZero, if_neg c1, if_neg c2]
      rw [e9] at hV
      subst hV
      exact roRetZ C0 rfl rfl dX4_isZero_19
    · refine lv_iconst (v := (1 : Int32)) hx hb dX4_isZero_14 (by decide) ?_
      refine lv_goto (tgt := 19) hx hb dX4_isZero_15 (by decide) ?_
      have e9 : (F_X4_isZero a ) = (1 : Int32) := by rw [F_X4_isZero, if_neg c1, if_pos c2]
      rw [e9] at hV
      subst hV
      exact roRetZ C0 rfl rfl dX4_isZero_19
theorem c_X4_isZero (l : Launch) (dC : Nat → ClassId) (dI : Nat → Nat → Nat) (cI cJ : ClassId) (a : Int64) : RoI l yX4_isZero wsX4_isZero rm_X4_isZero (dC, dI) [(cI, .int), (cJ, .long)] [] [.long a] (F_X4_isZero a ) := by
  refine RoI.mk (cc := cX4_isZero) (nL := 2) (ret := (some .boolean)) [(0, .long a)] (by decide) rfl (Nat.le_of_ble_eq_true rfl) rfl ?_
  intro p e s m below meth c C0 hP hK ls hl
  exact w_X4_isZero dC dI cI cJ a C0 hK hP rfl ls hl

-- X4_sum
def F_X4_sum_41 (v4 : Int64) (v6 : Int64) (t0 : Int32) : Int64 :=
  (if v6 = v4 then (if t0 = 0 then (0 : Int64) else v6) else v6)
def F_X4_sum_40 (v4 : Int64) (v6 : Int64) : Int64 :=
  (F_X4_sum_41 v4 v6 (0 : Int32))
def F_X4_sum_22 (v0 : Int64) (v2 : Int64) (v4 : Int64) (v6 : Int64) : Int64 :=
  (if v0 = v4 then (if v2 = v4 then (F_X4_sum_41 v4 v6 (1 : Int32)) else (F_X4_sum_40 v4 v6)) else (F_X4_sum_40 v4 v6))
def F_X4_sum (a : Int64) (b : Int64) (mk : Int64) : Int64 :=
  (if (a + b) ≤ mk then (F_X4_sum_22 a b mk (a + b)) else (F_X4_sum_22 a b mk (((a + b) &&& mk) + (1 : Int64))))
abbrev rm_X4_sum : Room := { frames := 0, cells := 0, slots := 0, locals := 0 }
set_option maxHeartbeats 4000000 in
set_option maxRecDepth 100000 in
theorem j_X4_sum_41 {p : Program} {l : Launch} {e : Env} {s : State} {m : MethodId} {below : List Frame} {meth : Method} {c : Code} {args : Array Value} (dC : Nat → ClassId) (dI : Nat → Nat → Nat) (cI cJ : ClassId) (a : Int64) (b : Int64) (mk : Int64) (C0 : Cx p s m meth c cX4_sum 9 (some .long) wsX4_sum RX4 args) (hK : va_K (dC, dI) vwCl [(cI, .int), (cJ, .long)] s) (hP : va_P (dC, dI) vwCl [] s.heap) (v4 : Int64) (v6 : Int64) (t0 : Int32) {V : Int64} (hV : (F_X4_sum_41 v4 v6 t0) = V) (ls : Array Slot) (hl : lv_has ls 9 [(4, .long v4), (6, .long v6)]) : W p l e rm_X4_sum s m args below meth c s.heap [] 0 0 (MQ below (vp_Sl (fun r => r = V)) args s 0 0 (fun _ => False)) (F0 m 41 ls [.int t0]) := by
  obtain ⟨hx, hb, hr, hlk, hml, hown, hts⟩ := id C0
  refine lv_istore (lv' := [(8, .int t0), (4, .long v4), (6, .long v6)]) hx hb dX4_sum_41 hl (by decide) rfl (fun ls hl => ?_)
  refine lv_lload hx hb dX4_sum_43 (lv_at hl 2 rfl) ?_
  refine lv_lload hx hb dX4_sum_45 (lv_at hl 1 rfl) ?_
  refine lc_ne (x := v6) (y := v4) (tgt := 60) hx hb dX4_sum_47 dX4_sum_48 (by decide) (fun c1 => ?_) (fun c1 => ?_)
  · refine lv_lload hx hb dX4_sum_60 (lv_at hl 2 rfl) ?_
    have e9 : (F_X4_sum_41 v4 v6 t0) = v6 := by rw [F_X4_sum_41, if_neg c1]
    rw [e9] at hV
    subst hV
    exact roRetL C0 rfl dX4_sum_62
  · refine lv_iload hx hb dX4_sum_51 (lv_at hl 0 rfl) ?_
    refine lv_if_ne (x := t0) (tgt := 60) hx hb dX4_sum_53 (by decide) (fun c2 => ?_) (fun c2 => ?_)
    · refine lv_lload hx hb dX4_sum_60 (lv_at hl 2 rfl) ?_
      have e9 : (F_X4_sum_41 v4 v6 t0) = v6 := by rw [F_X4_sum_41, if_pos c1, if_neg c2]
      rw [e9] at hV
      subst hV
      exact roRetL C0 rfl dX4_sum_62
    · refine lv_lconst (v := (0 : Int64)) hx hb dX4_sum_56 (by decide) ?_
      refine lv_goto (tgt := 62) hx hb dX4_sum_57 (by decide) ?_
      have e9 : (F_X4_sum_41 v4 v6 t0) = (0 : Int64) := by rw [F_X4_sum_41, if_pos c1, if_pos c2]
      rw [e9] at hV
      subst hV
      exact roRetL C0 rfl dX4_sum_62
set_option maxHeartbeats 4000000 in
set_option maxRecDepth 100000 in
theorem j_X4_sum_40 {p : Program} {l : Launch} {e : Env} {s : State} {m : MethodId} {below : List Frame} {meth : Method} {c : Code} {args : Array Value} (dC : Nat → ClassId) (dI : Nat → Nat → Nat) (cI cJ : ClassId) (a : Int64) (b : Int64) (mk : Int64) (C0 : Cx p s m meth c cX4_sum 9 (some .long) wsX4_sum RX4 args) (hK : va_K (dC, dI) vwCl [(cI, .int), (cJ, .long)] s) (hP : va_P (dC, dI) vwCl [] s.heap) (v4 : Int64) (v6 : Int64) {V : Int64} (hV : (F_X4_sum_40 v4 v6) = V) (ls : Array Slot) (hl : lv_has ls 9 [(4, .long v4), (6, .long v6)]) : W p l e rm_X4_sum s m args below meth c s.heap [] 0 0 (MQ below (vp_Sl (fun r => r = V)) args s 0 0 (fun _ => False)) (F0 m 40 ls []) := by
  obtain ⟨hx, hb, hr, hlk, hml, hown, hts⟩ := id C0
  refine lv_iconst (v := (0 : Int32)) hx hb dX4_sum_40 (by decide) ?_
  have e9 : (F_X4_sum_40 v4 v6) = (F_X4_sum_41 v4 v6 (0 : Int32)) := by rw [F_X4_sum_40]
  rw [e9] at hV
  exact j_X4_sum_41 dC dI cI cJ a b mk C0 hK hP v4 v6 (0 : Int32) hV ls (lv_sub hl [0, 1] rfl)
set_option maxHeartbeats 4000000 in
set_option maxRecDepth 100000 in
theorem j_X4_sum_22 {p : Program} {l : Launch} {e : Env} {s : State} {m : MethodId} {below : List Frame} {meth : Method} {c : Code} {args : Array Value} (dC : Nat → ClassId) (dI : Nat → Nat → Nat) (cI cJ : ClassId) (a : Int64) (b : Int64) (mk : Int64) (C0 : Cx p s m meth c cX4_sum 9 (some .long) wsX4_sum RX4 args) (hK : va_K (dC, dI) vwCl [(cI, .int), (cJ, .long)] s) (hP : va_P (dC, dI) vwCl [] s.heap) (v0 : Int64) (v2 : Int64) (v4 : Int64) (v6 : Int64) {V : Int64} (hV : (F_X4_sum_22 v0 v2 v4 v6) = V) (ls : Array Slot) (hl : lv_has ls 9 [(0, .long v0), (2, .long v2), (4, .long v4), (6, .long v6)]) : W p l e rm_X4_sum s m args below meth c s.heap [] 0 0 (MQ below (vp_Sl (fun r => r = V)) args s 0 0 (fun _ => False)) (F0 m 22 ls []) := by
  obtain ⟨hx, hb, hr, hlk, hml, hown, hts⟩ := id C0
  refine lv_lload_n hx hb dX4_sum_22 rfl (lv_at hl 0 rfl) ?_
  refine lv_lload hx hb dX4_sum_23 (lv_at hl 2 rfl) ?_
  refine lc_ne (x := v0) (y := v4) (tgt := 40) hx hb dX4_sum_25 dX4_sum_26 (by decide) (fun c1 => ?_) (fun c1 => ?_)
  · have e9 : (F_X4_sum_22 v0 v2 v4 v6) = (F_X4_sum_40 v4 v6) := by rw [F_X4_sum_22, if_neg c1]
    rw [e9] at hV
    exact j_X4_sum_40 dC dI cI cJ a b mk C0 hK hP v4 v6 hV ls (lv_sub hl [2, 3] rfl)
  · refine lv_lload_n hx hb dX4_sum_29 rfl (lv_at hl 1 rfl) ?_
    refine lv_lload hx hb dX4_sum_30 (lv_at hl 2 rfl) ?_
    refine lc_ne (x := v2) (y := v4) (tgt := 40) hx hb dX4_sum_32 dX4_sum_33 (by decide) (fun c2 => ?_) (fun c2 => ?_)
    · have e9 : (F_X4_sum_22 v0 v2 v4 v6) = (F_X4_sum_40 v4 v6) := by rw [F_X4_sum_22, if_pos c1, if_neg c2]
      rw [e9] at hV
      exact j_X4_sum_40 dC dI cI cJ a b mk C0 hK hP v4 v6 hV ls (lv_sub hl [2, 3] rfl)
    · refine lv_iconst (v := (1 : Int32)) hx hb dX4_sum_36 (by decide) ?_
      refine lv_goto (tgt := 41) hx hb dX4_sum_37 (by decide) ?_
      have e9 : (F_X4_sum_22 v0 v2 v4 v6) = (F_X4_sum_41 v4 v6 (1 : Int32)) := by rw [F_X4_sum_22, if_pos c1, if_pos c2]
      rw [e9] at hV
      exact j_X4_sum_41 dC dI cI cJ a b mk C0 hK hP v4 v6 (1 : Int32) hV ls (lv_sub hl [2, 3] rfl)
set_option maxHeartbeats 4000000 in
set_option maxRecDepth 100000 in
theorem w_X4_sum {p : Program} {l : Launch} {e : Env} {s : State} {m : MethodId} {below : List Frame} {meth : Method} {c : Code} {args : Array Value} (dC : Nat → ClassId) (dI : Nat → Nat → Nat) (cI cJ : ClassId) (a : Int64) (b : Int64) (mk : Int64) (C0 : Cx p s m meth c cX4_sum 9 (some .long) wsX4_sum RX4 args) (hK : va_K (dC, dI) vwCl [(cI, .int), (cJ, .long)] s) (hP : va_P (dC, dI) vwCl [] s.heap) {V : Int64} (hV : (F_X4_sum a b mk ) = V) (ls : Array Slot) (hl : lv_has ls 9 [(0, .long a), (2, .long b), (4, .long mk)]) : W p l e rm_X4_sum s m args below meth c s.heap [] 0 0 (MQ below (vp_Sl (fun r => r = V)) args s 0 0 (fun _ => False)) (F0 m 0 ls []) := by
  obtain ⟨hx, hb, hr, hlk, hml, hown, hts⟩ := id C0
  refine lv_lload_n hx hb dX4_sum_0 rfl (lv_at hl 0 rfl) ?_
  refine lv_lload_n hx hb dX4_sum_1 rfl (lv_at hl 1 rfl) ?_
  refine lv_ladd hx hb dX4_sum_2 ?_
  refine lv_lstore (lv' := [(6, .long (a + b)), (0, .long a), (2, .long b), (4, .long mk)]) hx hb dX4_sum_3 hl (by decide) rfl (fun ls hl => ?_)
  refine lv_lload hx hb dX4_sum_5 (lv_at hl 0 rfl) ?_
  refine lv_lload hx hb dX4_sum_7 (lv_at hl 3 rfl) ?_
  refine lc_le (x := (a + b)) (y := mk) (tgt := 22) hx hb dX4_sum_9 dX4_sum_10 (by decide) (fun c1 => ?_) (fun c1 => ?_)
  · have e9 : (F_X4_sum a b mk ) = (F_X4_sum_22 a b mk (a + b)) := by rw [F_X4_sum, if_pos c1]
    rw [e9] at hV
    exact j_X4_sum_22 dC dI cI cJ a b mk C0 hK hP a b mk (a + b) hV ls (lv_sub hl [1, 2, 3, 0] rfl)
  · refine lv_lload hx hb dX4_sum_13 (lv_at hl 0 rfl) ?_
    refine lv_lload hx hb dX4_sum_15 (lv_at hl 3 rfl) ?_
    refine lv_land hx hb dX4_sum_17 ?_
    refine lv_lconst (v := (1 : Int64)) hx hb dX4_sum_18 (by decide) ?_
    refine lv_ladd hx hb dX4_sum_19 ?_
    refine lv_lstore (lv' := [(6, .long (((a + b) &&& mk) + (1 : Int64))), (0, .long a), (2, .long b), (4, .long mk)]) hx hb dX4_sum_20 hl (by decide) rfl (fun ls hl => ?_)
    have e9 : (F_X4_sum a b mk ) = (F_X4_sum_22 a b mk (((a + b) &&& mk) + (1 : Int64))) := by rw [F_X4_sum, if_neg c1]
    rw [e9] at hV
    exact j_X4_sum_22 dC dI cI cJ a b mk C0 hK hP a b mk (((a + b) &&& mk) + (1 : Int64)) hV ls (lv_sub hl [1, 2, 3, 0] rfl)
theorem c_X4_sum (l : Launch) (dC : Nat → ClassId) (dI : Nat → Nat → Nat) (cI cJ : ClassId) (a : Int64) (b : Int64) (mk : Int64) : RoL l yX4_sum wsX4_sum rm_X4_sum (dC, dI) [(cI, .int), (cJ, .long)] [] [.long a, .long b, .long mk] (F_X4_sum a b mk ) := by
  refine RoL.mk (cc := cX4_sum) (nL := 9) (ret := (some .long)) [(0, .long a), (2, .long b), (4, .long mk)] (by decide) rfl (Nat.le_of_ble_eq_true rfl) rfl ?_
  intro p e s m below meth c C0 hP hK ls hl
  exact w_X4_sum dC dI cI cJ a b mk C0 hK hP rfl ls hl

-- X4_difference
def F_X4_difference (a : Int64) (b : Int64) (mk : Int64) : Int64 :=
  (F_X4_sum a (b ^^^ mk) mk)
abbrev rm_X4_difference : Room := { frames := 1, cells := 0, slots := 0, locals := 28 }
set_option maxRecDepth 20000 in
theorem mm_X4_difference_iX4 : Cond.initialized RX4 ∈ wsX4_difference := by decide +kernel
set_option maxRecDepth 20000 in
theorem mm_X4_difference_l9 : Cond.methodLink RX4 9 yX4_sum ∈ wsX4_difference := by decide +kernel
set_option maxRecDepth 20000 in
theorem mm_X4_difference_tX4_sum : Cond.static yX4_sum ∈ wsX4_difference := by decide +kernel
set_option maxHeartbeats 4000000 in
set_option maxRecDepth 100000 in
theorem w_X4_difference {p : Program} {l : Launch} {e : Env} {s : State} {m : MethodId} {below : List Frame} {meth : Method} {c : Code} {args : Array Value} (dC : Nat → ClassId) (dI : Nat → Nat → Nat) (cI cJ : ClassId) (a : Int64) (b : Int64) (mk : Int64) (C0 : Cx p s m meth c cX4_difference 6 (some .long) wsX4_difference RX4 args) (hK : va_K (dC, dI) vwCl [(cI, .int), (cJ, .long)] s) (hP : va_P (dC, dI) vwCl [] s.heap) {V : Int64} (hV : (F_X4_difference a b mk ) = V) (ls : Array Slot) (hl : lv_has ls 6 [(0, .long a), (2, .long b), (4, .long mk)]) : W p l e rm_X4_difference s m args below meth c s.heap [] 0 0 (MQ below (vp_Sl (fun r => r = V)) args s 0 0 (fun _ => False)) (F0 m 0 ls []) := by
  obtain ⟨hx, hb, hr, hlk, hml, hown, hts⟩ := id C0
  refine lv_lload_n hx hb dX4_difference_0 rfl (lv_at hl 0 rfl) ?_
  refine lv_lload_n hx hb dX4_difference_1 rfl (lv_at hl 1 rfl) ?_
  refine lv_lload hx hb dX4_difference_2 (lv_at hl 2 rfl) ?_
  refine lv_lxor hx hb dX4_difference_4 ?_
  refine lv_lload hx hb dX4_difference_5 (lv_at hl 2 rfl) ?_
  refine roSl (As := [.long a, .long (b ^^^ mk), .long mk]) (rest := []) (bytes := cX4_sum) (maxL := 9) (rty := (some .long)) (n := 3) C0 (c_X4_sum l dC dI cI cJ a (b ^^^ mk) mk) ⟨rfl, rfl, rfl, by decide +kernel, by decide, by decide⟩ ggX4_difference_X4_sum mm_X4_difference_iX4 mm_X4_difference_l9 mm_X4_difference_tX4_sum (hP.sub (ws' := []) [] rfl) hK hl.1 rfl rfl (Nat.le_of_ble_eq_true rfl) dX4_difference_7 ⟨Nat.zero_le _, Nat.zero_le _⟩ ?_
  have e9 : (F_X4_difference a b mk ) = (F_X4_sum a (b ^^^ mk) mk) := by rw [F_X4_difference]
  rw [e9] at hV
  subst hV
  exact roRetL C0 rfl dX4_difference_10
theorem c_X4_difference (l : Launch) (dC : Nat → ClassId) (dI : Nat → Nat → Nat) (cI cJ : ClassId) (a : Int64) (b : Int64) (mk : Int64) : RoL l yX4_difference wsX4_difference rm_X4_difference (dC, dI) [(cI, .int), (cJ, .long)] [] [.long a, .long b, .long mk] (F_X4_difference a b mk ) := by
  refine RoL.mk (cc := cX4_difference) (nL := 6) (ret := (some .long)) [(0, .long a), (2, .long b), (4, .long mk)] (by decide) rfl (Nat.le_of_ble_eq_true rfl) rfl ?_
  intro p e s m below meth c C0 hP hK ls hl
  exact w_X4_difference dC dI cI cJ a b mk C0 hK hP rfl ls hl

-- X4_extended
def F_X4_extended (a : Int64) : Int64 :=
  (if (F_X4_isShortNegative a) = 0 then a else (a ||| (1152921504606584832 : Int64)))
abbrev rm_X4_extended : Room := { frames := 1, cells := 0, slots := 0, locals := 21 }
set_option maxRecDepth 20000 in
theorem mm_X4_extended_iX4 : Cond.initialized RX4 ∈ wsX4_extended := by decide +kernel
set_option maxRecDepth 20000 in
theorem mm_X4_extended_k23 : Cond.constantLong RX4 23 (1152921504606584832) ∈ wsX4_extended := by decide +kernel
set_option maxRecDepth 20000 in
theorem mm_X4_extended_l19 : Cond.methodLink RX4 19 yX4_isShortNegative ∈ wsX4_extended := by decide +kernel
set_option maxRecDepth 20000 in
theorem mm_X4_extended_tX4_isShortNegative : Cond.static yX4_isShortNegative ∈ wsX4_extended := by decide +kernel
set_option maxHeartbeats 4000000 in
set_option maxRecDepth 100000 in
theorem w_X4_extended {p : Program} {l : Launch} {e : Env} {s : State} {m : MethodId} {below : List Frame} {meth : Method} {c : Code} {args : Array Value} (dC : Nat → ClassId) (dI : Nat → Nat → Nat) (cI cJ : ClassId) (a : Int64) (C0 : Cx p s m meth c cX4_extended 2 (some .long) wsX4_extended RX4 args) (hK : va_K (dC, dI) vwCl [(cI, .int), (cJ, .long)] s) (hP : va_P (dC, dI) vwCl [] s.heap) {V : Int64} (hV : (F_X4_extended a ) = V) (ls : Array Slot) (hl : lv_has ls 2 [(0, .long a)]) : W p l e rm_X4_extended s m args below meth c s.heap [] 0 0 (MQ below (vp_Sl (fun r => r = V)) args s 0 0 (fun _ => False)) (F0 m 0 ls []) := by
  obtain ⟨hx, hb, hr, hlk, hml, hown, hts⟩ := id C0
  refine lv_lload_n hx hb dX4_extended_0 rfl (lv_at hl 0 rfl) ?_
  refine roSi (As := [.long a]) (rest := []) (bytes := cX4_isShortNegative) (maxL := 2) (rty := (some .boolean)) (n := 1) C0 (c_X4_isShortNegative l dC dI cI cJ a) ⟨rfl, rfl, rfl, by decide +kernel, by decide, by decide⟩ ggX4_extended_X4_isShortNegative mm_X4_extended_iX4 mm_X4_extended_l19 mm_X4_extended_tX4_isShortNegative (hP.sub (ws' := []) [] rfl) hK hl.1 rfl rfl (Nat.le_of_ble_eq_true rfl) dX4_extended_1 ⟨Nat.zero_le _, Nat.zero_le _⟩ ?_
  refine lv_if_eq (x := (F_X4_isShortNegative a)) (tgt := 15) hx hb dX4_extended_4 (by decide) (fun c1 => ?_) (fun c1 => ?_)
  · refine lv_lload_n hx hb dX4_extended_15 rfl (lv_at hl 0 rfl) ?_
    have e9 : (F_X4_extended a ) = a := by rw [F_X4_extended, if_pos c1]
    rw [e9] at hV
    subst hV
    exact roRetL C0 rfl dX4_extended_16
  · refine lv_lload_n hx hb dX4_extended_7 rfl (lv_at hl 0 rfl) ?_
    refine lv_ldc2 (v := (1152921504606584832 : Int64)) hx hb hown (hts _ mm_X4_extended_k23) dX4_extended_8 ?_
    refine lv_lor hx hb dX4_extended_11 ?_
    refine lv_goto (tgt := 16) hx hb dX4_extended_12 (by decide) ?_
    have e9 : (F_X4_extended a ) = (a ||| (1152921504606584832 : Int64)) := by rw [F_X4_extended, if_neg c1]
    rw [e9] at hV
    subst hV
    exact roRetL C0 rfl dX4_extended_16
theorem c_X4_extended (l : Launch) (dC : Nat → ClassId) (dI : Nat → Nat → Nat) (cI cJ : ClassId) (a : Int64) : RoL l yX4_extended wsX4_extended rm_X4_extended (dC, dI) [(cI, .int), (cJ, .long)] [] [.long a] (F_X4_extended a ) := by
  refine RoL.mk (cc := cX4_extended) (nL := 2) (ret := (some .long)) [(0, .long a)] (by decide) rfl (Nat.le_of_ble_eq_true rfl) rfl ?_
  intro p e s m below meth c C0 hP hK ls hl
  exact w_X4_extended dC dI cI cJ a C0 hK hP rfl ls hl

-- X4_plain
def F_X4_plain (a : Int64) : Int64 :=
  (if (F_X4_isShortNegative a) = 0 then a else (-(a ^^^ (262143 : Int64))))
abbrev rm_X4_plain : Room := { frames := 1, cells := 0, slots := 0, locals := 21 }
set_option maxRecDepth 20000 in
theorem mm_X4_plain_iX4 : Cond.initialized RX4 ∈ wsX4_plain := by decide +kernel
set_option maxRecDepth 20000 in
theorem mm_X4_plain_k25 : Cond.constantLong RX4 25 (262143) ∈ wsX4_plain := by decide +kernel
set_option maxRecDepth 20000 in
theorem mm_X4_plain_l19 : Cond.methodLink RX4 19 yX4_isShortNegative ∈ wsX4_plain := by decide +kernel
set_option maxRecDepth 20000 in
theorem mm_X4_plain_tX4_isShortNegative : Cond.static yX4_isShortNegative ∈ wsX4_plain := by decide +kernel
set_option maxHeartbeats 4000000 in
set_option maxRecDepth 100000 in
theorem w_X4_plain {p : Program} {l : Launch} {e : Env} {s : State} {m : MethodId} {below : List Frame} {meth : Method} {c : Code} {args : Array Value} (dC : Nat → ClassId) (dI : Nat → Nat → Nat) (cI cJ : ClassId) (a : Int64) (C0 : Cx p s m meth c cX4_plain 2 (some .long) wsX4_plain RX4 args) (hK : va_K (dC, dI) vwCl [(cI, .int), (cJ, .long)] s) (hP : va_P (dC, dI) vwCl [] s.heap) {V : Int64} (hV : (F_X4_plain a ) = V) (ls : Array Slot) (hl : lv_has ls 2 [(0, .long a)]) : W p l e rm_X4_plain s m args below meth c s.heap [] 0 0 (MQ below (vp_Sl (fun r => r = V)) args s 0 0 (fun _ => False)) (F0 m 0 ls []) := by
  obtain ⟨hx, hb, hr, hlk, hml, hown, hts⟩ := id C0
  refine lv_lload_n hx hb dX4_plain_0 rfl (lv_at hl 0 rfl) ?_
  refine roSi (As := [.long a]) (rest := []) (bytes := cX4_isShortNegative) (maxL := 2) (rty := (some .boolean)) (n := 1) C0 (c_X4_isShortNegative l dC dI cI cJ a) ⟨rfl, rfl, rfl, by decide +kernel, by decide, by decide⟩ ggX4_plain_X4_isShortNegative mm_X4_plain_iX4 mm_X4_plain_l19 mm_X4_plain_tX4_isShortNegative (hP.sub (ws' := []) [] rfl) hK hl.1 rfl rfl (Nat.le_of_ble_eq_true rfl) dX4_plain_1 ⟨Nat.zero_le _, Nat.zero_le _⟩ ?_
  refine lv_if_eq (x := (F_X4_isShortNegative a)) (tgt := 16) hx hb dX4_plain_4 (by decide) (fun c1 => ?_) (fun c1 => ?_)
  · refine lv_lload_n hx hb dX4_plain_16 rfl (lv_at hl 0 rfl) ?_
    have e9 : (F_X4_plain a ) = a := by rw [F_X4_plain, if_pos c1]
    rw [e9] at hV
    subst hV
    exact roRetL C0 rfl dX4_plain_17
  · refine lv_lload_n hx hb dX4_plain_7 rfl (lv_at hl 0 rfl) ?_
    refine lv_ldc2 (v := (262143 : Int64)) hx hb hown (hts _ mm_X4_plain_k25) dX4_plain_8 ?_
    refine lv_lxor hx hb dX4_plain_11 ?_
    refine lv_lneg hx hb dX4_plain_12 ?_
    refine lv_goto (tgt := 17) hx hb dX4_plain_13 (by decide) ?_
    have e9 : (F_X4_plain a ) = (-(a ^^^ (262143 : Int64))) := by rw [F_X4_plain, if_neg c1]
    rw [e9] at hV
    subst hV
    exact roRetL C0 rfl dX4_plain_17
theorem c_X4_plain (l : Launch) (dC : Nat → ClassId) (dI : Nat → Nat → Nat) (cI cJ : ClassId) (a : Int64) : RoL l yX4_plain wsX4_plain rm_X4_plain (dC, dI) [(cI, .int), (cJ, .long)] [] [.long a] (F_X4_plain a ) := by
  refine RoL.mk (cc := cX4_plain) (nL := 2) (ret := (some .long)) [(0, .long a)] (by decide) rfl (Nat.le_of_ble_eq_true rfl) rfl ?_
  intro p e s m below meth c C0 hP hK ls hl
  exact w_X4_plain dC dI cI cJ a C0 hK hP rfl ls hl

-- X4_turnedRoundLeft
def F_X4_turnedRoundLeft (a : Int64) (n : Int32) : Int64 :=
  (((a <<< ((n - n / (60 : Int32) * (60 : Int32)).toInt64 &&& 63)) ||| ((a.toUInt64 >>> (((60 : Int32) - (n - n / (60 : Int32) * (60 : Int32))).toInt64.toUInt64 &&& Int64.toUInt64 63)).toInt64)) &&& (1152921504606846975 : Int64))
abbrev rm_X4_turnedRoundLeft : Room := { frames := 0, cells := 0, slots := 0, locals := 0 }
set_option maxRecDepth 20000 in
theorem mm_X4_turnedRoundLeft_k17 : Cond.constantLong RX4 17 (1152921504606846975) ∈ wsX4_turnedRoundLeft := by decide +kernel
set_option maxHeartbeats 4000000 in
set_option maxRecDepth 100000 in
theorem w_X4_turnedRoundLeft {p : Program} {l : Launch} {e : Env} {s : State} {m : MethodId} {below : List Frame} {meth : Method} {c : Code} {args : Array Value} (dC : Nat → ClassId) (dI : Nat → Nat → Nat) (cI cJ : ClassId) (a : Int64) (n : Int32) (C0 : Cx p s m meth c cX4_turnedRoundLeft 4 (some .long) wsX4_turnedRoundLeft RX4 args) (hK : va_K (dC, dI) vwCl [(cI, .int), (cJ, .long)] s) (hP : va_P (dC, dI) vwCl [] s.heap) {V : Int64} (hV : (F_X4_turnedRoundLeft a n ) = V) (ls : Array Slot) (hl : lv_has ls 4 [(0, .long a), (2, .int n)]) : W p l e rm_X4_turnedRoundLeft s m args below meth c s.heap [] 0 0 (MQ below (vp_Sl (fun r => r = V)) args s 0 0 (fun _ => False)) (F0 m 0 ls []) := by
  obtain ⟨hx, hb, hr, hlk, hml, hown, hts⟩ := id C0
  refine lv_iload_n hx hb dX4_turnedRoundLeft_0 rfl (lv_at hl 1 rfl) ?_
  refine lv_bipush (v := (60 : Int32)) hx hb dX4_turnedRoundLeft_1 (by decide) ?_
  refine lv_irem hx hb dX4_turnedRoundLeft_3 (by decide) ?_
  refine lv_istore_n (lv' := [(3, .int (n - n / (60 : Int32) * (60 : Int32))), (0, .long a), (2, .int n)]) hx hb dX4_turnedRoundLeft_4 rfl hl (by decide) rfl (fun ls hl => ?_)
  refine lv_lload_n hx hb dX4_turnedRoundLeft_5 rfl (lv_at hl 1 rfl) ?_
  refine lv_iload_n hx hb dX4_turnedRoundLeft_6 rfl (lv_at hl 0 rfl) ?_
  refine lv_lshl hx hb dX4_turnedRoundLeft_7 rfl ?_
  refine lv_lload_n hx hb dX4_turnedRoundLeft_8 rfl (lv_at hl 1 rfl) ?_
  refine lv_bipush (v := (60 : Int32)) hx hb dX4_turnedRoundLeft_9 (by decide) ?_
  refine lv_iload_n hx hb dX4_turnedRoundLeft_11 rfl (lv_at hl 0 rfl) ?_
  refine lv_isub hx hb dX4_turnedRoundLeft_12 ?_
  refine lv_lushr hx hb dX4_turnedRoundLeft_13 rfl ?_
  refine lv_lor hx hb dX4_turnedRoundLeft_14 ?_
  refine lv_ldc2 (v := (1152921504606846975 : Int64)) hx hb hown (hts _ mm_X4_turnedRoundLeft_k17) dX4_turnedRoundLeft_15 ?_
  refine lv_land hx hb dX4_turnedRoundLeft_18 ?_
  have e9 : (F_X4_turnedRoundLeft a n ) = (((a <<< ((n - n / (60 : Int32) * (60 : Int32)).toInt64 &&& 63)) ||| ((a.toUInt64 >>> (((60 : Int32) - (n - n / (60 : Int32) * (60 : Int32))).toInt64.toUInt64 &&& Int64.toUInt64 63)).toInt64)) &&& (1152921504606846975 : Int64)) := by rw [F_X4_turnedRoundLeft]
  rw [e9] at hV
  subst hV
  exact roRetL C0 rfl dX4_turnedRoundLeft_19
theorem c_X4_turnedRoundLeft (l : Launch) (dC : Nat → ClassId) (dI : Nat → Nat → Nat) (cI cJ : ClassId) (a : Int64) (n : Int32) : RoL l yX4_turnedRoundLeft wsX4_turnedRoundLeft rm_X4_turnedRoundLeft (dC, dI) [(cI, .int), (cJ, .long)] [] [.long a, .int n] (F_X4_turnedRoundLeft a n ) := by
  refine RoL.mk (cc := cX4_turnedRoundLeft) (nL := 4) (ret := (some .long)) [(0, .long a), (2, .int n)] (by decide) rfl (Nat.le_of_ble_eq_true rfl) rfl ?_
  intro p e s m below meth c C0 hP hK ls hl
  exact w_X4_turnedRoundLeft dC dI cI cJ a n C0 hK hP rfl ls hl

-- X4_shiftedRight
def F_X4_shiftedRight_16 (v2 : Int32) (t0 : Int64) : Int64 :=
  ((t0 >>> ((if (60 : Int32) < v2 then (60 : Int32) else v2).toInt64 &&& 63)) &&& (1152921504606846975 : Int64))
def F_X4_shiftedRight (a : Int64) (n : Int32) : Int64 :=
  (if (F_X4_isNegative a) = 0 then (F_X4_shiftedRight_16 n a) else (F_X4_shiftedRight_16 n (a ||| (-1152921504606846976 : Int64))))
abbrev rm_X4_shiftedRight : Room := { frames := 1, cells := 0, slots := 0, locals := 21 }
set_option maxRecDepth 20000 in
theorem mm_X4_shiftedRight_c_min : Cond.code Lib.Math.min.name Lib.Math.min.code 2 (some .int) ∈ wsX4_shiftedRight := by decide +kernel
set_option maxRecDepth 20000 in
theorem mm_X4_shiftedRight_iX4 : Cond.initialized RX4 ∈ wsX4_shiftedRight := by decide +kernel
set_option maxRecDepth 20000 in
theorem mm_X4_shiftedRight_im : Cond.initialized "java/lang/Math" ∈ wsX4_shiftedRight := by decide +kernel
set_option maxRecDepth 20000 in
theorem mm_X4_shiftedRight_k17 : Cond.constantLong RX4 17 (1152921504606846975) ∈ wsX4_shiftedRight := by decide +kernel
set_option maxRecDepth 20000 in
theorem mm_X4_shiftedRight_k30 : Cond.constantLong RX4 30 (-1152921504606846976) ∈ wsX4_shiftedRight := by decide +kernel
set_option maxRecDepth 20000 in
theorem mm_X4_shiftedRight_l27 : Cond.methodLink RX4 27 yX4_isNegative ∈ wsX4_shiftedRight := by decide +kernel
set_option maxRecDepth 20000 in
theorem mm_X4_shiftedRight_l32 : Cond.methodLink RX4 32 Lib.Math.min.name ∈ wsX4_shiftedRight := by decide +kernel
set_option maxRecDepth 20000 in
theorem mm_X4_shiftedRight_st_min : Cond.static Lib.Math.min.name ∈ wsX4_shiftedRight := by decide +kernel
set_option maxRecDepth 20000 in
theorem mm_X4_shiftedRight_tX4_isNegative : Cond.static yX4_isNegative ∈ wsX4_shiftedRight := by decide +kernel
set_option maxHeartbeats 4000000 in
set_option maxRecDepth 100000 in
theorem j_X4_shiftedRight_16 {p : Program} {l : Launch} {e : Env} {s : State} {m : MethodId} {below : List Frame} {meth : Method} {c : Code} {args : Array Value} (dC : Nat → ClassId) (dI : Nat → Nat → Nat) (cI cJ : ClassId) (a : Int64) (n : Int32) (C0 : Cx p s m meth c cX4_shiftedRight 5 (some .long) wsX4_shiftedRight RX4 args) (hK : va_K (dC, dI) vwCl [(cI, .int), (cJ, .long)] s) (hP : va_P (dC, dI) vwCl [] s.heap) (v2 : Int32) (t0 : Int64) {V : Int64} (hV : (F_X4_shiftedRight_16 v2 t0) = V) (ls : Array Slot) (hl : lv_has ls 5 [(2, .int v2)]) : W p l e rm_X4_shiftedRight s m args below meth c s.heap [] 0 0 (MQ below (vp_Sl (fun r => r = V)) args s 0 0 (fun _ => False)) (F0 m 16 ls [.long t0]) := by
  obtain ⟨hx, hb, hr, hlk, hml, hown, hts⟩ := id C0
  refine lv_lstore_n (lv' := [(3, .long t0), (2, .int v2)]) hx hb dX4_shiftedRight_16 rfl hl (by decide) rfl (fun ls hl => ?_)
  refine lv_lload_n hx hb dX4_shiftedRight_17 rfl (lv_at hl 0 rfl) ?_
  refine lv_iload_n hx hb dX4_shiftedRight_18 rfl (lv_at hl 1 rfl) ?_
  refine lv_bipush (v := (60 : Int32)) hx hb dX4_shiftedRight_19 (by decide) ?_
  refine va_mmin hx hb (by rw [hml]; exact hl.1.symm) hown (hts _ mm_X4_shiftedRight_l32) (hts _ mm_X4_shiftedRight_st_min) (hts _ mm_X4_shiftedRight_im) (hts _ mm_X4_shiftedRight_c_min) (Nat.le_of_ble_eq_true rfl) (Nat.le_of_ble_eq_true rfl) (Nat.zero_le _) (Nat.zero_le _) dX4_shiftedRight_21 ?_
  refine lv_lshr hx hb dX4_shiftedRight_24 rfl ?_
  refine lv_ldc2 (v := (1152921504606846975 : Int64)) hx hb hown (hts _ mm_X4_shiftedRight_k17) dX4_shiftedRight_25 ?_
  refine lv_land hx hb dX4_shiftedRight_28 ?_
  have e9 : (F_X4_shiftedRight_16 v2 t0) = ((t0 >>> ((if (60 : Int32) < v2 then (60 : Int32) else v2).toInt64 &&& 63)) &&& (1152921504606846975 : Int64)) := by rw [F_X4_shiftedRight_16]
  rw [e9] at hV
  subst hV
  exact roRetL C0 rfl dX4_shiftedRight_29
set_option maxHeartbeats 4000000 in
set_option maxRecDepth 100000 in
theorem w_X4_shiftedRight {p : Program} {l : Launch} {e : Env} {s : State} {m : MethodId} {below : List Frame} {meth : Method} {c : Code} {args : Array Value} (dC : Nat → ClassId) (dI : Nat → Nat → Nat) (cI cJ : ClassId) (a : Int64) (n : Int32) (C0 : Cx p s m meth c cX4_shiftedRight 5 (some .long) wsX4_shiftedRight RX4 args) (hK : va_K (dC, dI) vwCl [(cI, .int), (cJ, .long)] s) (hP : va_P (dC, dI) vwCl [] s.heap) {V : Int64} (hV : (F_X4_shiftedRight a n ) = V) (ls : Array Slot) (hl : lv_has ls 5 [(0, .long a), (2, .int n)]) : W p l e rm_X4_shiftedRight s m args below meth c s.heap [] 0 0 (MQ below (vp_Sl (fun r => r = V)) args s 0 0 (fun _ => False)) (F0 m 0 ls []) := by
  obtain ⟨hx, hb, hr, hlk, hml, hown, hts⟩ := id C0
  refine lv_lload_n hx hb dX4_shiftedRight_0 rfl (lv_at hl 0 rfl) ?_
  refine roSi (As := [.long a]) (rest := []) (bytes := cX4_isNegative) (maxL := 2) (rty := (some .boolean)) (n := 1) C0 (c_X4_isNegative l dC dI cI cJ a) ⟨rfl, rfl, rfl, by decide +kernel, by decide, by decide⟩ ggX4_shiftedRight_X4_isNegative mm_X4_shiftedRight_iX4 mm_X4_shiftedRight_l27 mm_X4_shiftedRight_tX4_isNegative (hP.sub (ws' := []) [] rfl) hK hl.1 rfl rfl (Nat.le_of_ble_eq_true rfl) dX4_shiftedRight_1 ⟨Nat.zero_le _, Nat.zero_le _⟩ ?_
  refine lv_if_eq (x := (F_X4_isNegative a)) (tgt := 15) hx hb dX4_shiftedRight_4 (by decide) (fun c1 => ?_) (fun c1 => ?_)
  · refine lv_lload_n hx hb dX4_shiftedRight_15 rfl (lv_at hl 0 rfl) ?_
    have e9 : (F_X4_shiftedRight a n ) = (F_X4_shiftedRight_16 n a) := by rw [F_X4_shiftedRight, if_pos c1]
    rw [e9] at hV
    exact j_X4_shiftedRight_16 dC dI cI cJ a n C0 hK hP n a hV ls (lv_sub hl [1] rfl)
  · refine lv_lload_n hx hb dX4_shiftedRight_7 rfl (lv_at hl 0 rfl) ?_
    refine lv_ldc2 (v := (-1152921504606846976 : Int64)) hx hb hown (hts _ mm_X4_shiftedRight_k30) dX4_shiftedRight_8 ?_
    refine lv_lor hx hb dX4_shiftedRight_11 ?_
    refine lv_goto (tgt := 16) hx hb dX4_shiftedRight_12 (by decide) ?_
    have e9 : (F_X4_shiftedRight a n ) = (F_X4_shiftedRight_16 n (a ||| (-1152921504606846976 : Int64))) := by rw [F_X4_shiftedRight, if_neg c1]
    rw [e9] at hV
    exact j_X4_shiftedRight_16 dC dI cI cJ a n C0 hK hP n (a ||| (-1152921504606846976 : Int64)) hV ls (lv_sub hl [1] rfl)
theorem c_X4_shiftedRight (l : Launch) (dC : Nat → ClassId) (dI : Nat → Nat → Nat) (cI cJ : ClassId) (a : Int64) (n : Int32) : RoL l yX4_shiftedRight wsX4_shiftedRight rm_X4_shiftedRight (dC, dI) [(cI, .int), (cJ, .long)] [] [.long a, .int n] (F_X4_shiftedRight a n ) := by
  refine RoL.mk (cc := cX4_shiftedRight) (nL := 5) (ret := (some .long)) [(0, .long a), (2, .int n)] (by decide) rfl (Nat.le_of_ble_eq_true rfl) rfl ?_
  intro p e s m below meth c C0 hP hK ls hl
  exact w_X4_shiftedRight dC dI cI cJ a n C0 hK hP rfl ls hl

-- X4_highestBits
def F_X4_highestBits (n : Int32) : Int64 :=
  ((1152921504606846975 : Int64) ^^^ ((1152921504606846975 : Int64) >>> ((if (60 : Int32) < n then (60 : Int32) else n).toInt64 &&& 63)))
abbrev rm_X4_highestBits : Room := { frames := 1, cells := 0, slots := 0, locals := 21 }
set_option maxRecDepth 20000 in
theorem mm_X4_highestBits_c_min : Cond.code Lib.Math.min.name Lib.Math.min.code 2 (some .int) ∈ wsX4_highestBits := by decide +kernel
set_option maxRecDepth 20000 in
theorem mm_X4_highestBits_im : Cond.initialized "java/lang/Math" ∈ wsX4_highestBits := by decide +kernel
set_option maxRecDepth 20000 in
theorem mm_X4_highestBits_k17 : Cond.constantLong RX4 17 (1152921504606846975) ∈ wsX4_highestBits := by decide +kernel
set_option maxRecDepth 20000 in
theorem mm_X4_highestBits_l32 : Cond.methodLink RX4 32 Lib.Math.min.name ∈ wsX4_highestBits := by decide +kernel
set_option maxRecDepth 20000 in
theorem mm_X4_highestBits_st_min : Cond.static Lib.Math.min.name ∈ wsX4_highestBits := by decide +kernel
set_option maxHeartbeats 4000000 in
set_option maxRecDepth 100000 in
theorem w_X4_highestBits {p : Program} {l : Launch} {e : Env} {s : State} {m : MethodId} {below : List Frame} {meth : Method} {c : Code} {args : Array Value} (dC : Nat → ClassId) (dI : Nat → Nat → Nat) (cI cJ : ClassId) (n : Int32) (C0 : Cx p s m meth c cX4_highestBits 1 (some .long) wsX4_highestBits RX4 args) (hK : va_K (dC, dI) vwCl [(cI, .int), (cJ, .long)] s) (hP : va_P (dC, dI) vwCl [] s.heap) {V : Int64} (hV : (F_X4_highestBits n ) = V) (ls : Array Slot) (hl : lv_has ls 1 [(0, .int n)]) : W p l e rm_X4_highestBits s m args below meth c s.heap [] 0 0 (MQ below (vp_Sl (fun r => r = V)) args s 0 0 (fun _ => False)) (F0 m 0 ls []) := by
  obtain ⟨hx, hb, hr, hlk, hml, hown, hts⟩ := id C0
  refine lv_ldc2 (v := (1152921504606846975 : Int64)) hx hb hown (hts _ mm_X4_highestBits_k17) dX4_highestBits_0 ?_
  refine lv_ldc2 (v := (1152921504606846975 : Int64)) hx hb hown (hts _ mm_X4_highestBits_k17) dX4_highestBits_3 ?_
  refine lv_iload_n hx hb dX4_highestBits_6 rfl (lv_at hl 0 rfl) ?_
  refine lv_bipush (v := (60 : Int32)) hx hb dX4_highestBits_7 (by decide) ?_
  refine va_mmin hx hb (by rw [hml]; exact hl.1.symm) hown (hts _ mm_X4_highestBits_l32) (hts _ mm_X4_highestBits_st_min) (hts _ mm_X4_highestBits_im) (hts _ mm_X4_highestBits_c_min) (Nat.le_of_ble_eq_true rfl) (Nat.le_of_ble_eq_true rfl) (Nat.zero_le _) (Nat.zero_le _) dX4_highestBits_9 ?_
  refine lv_lshr hx hb dX4_highestBits_12 rfl ?_
  refine lv_lxor hx hb dX4_highestBits_13 ?_
  have e9 : (F_X4_highestBits n ) = ((1152921504606846975 : Int64) ^^^ ((1152921504606846975 : Int64) >>> ((if (60 : Int32) < n then (60 : Int32) else n).toInt64 &&& 63))) := by rw [F_X4_highestBits]
  rw [e9] at hV
  subst hV
  exact roRetL C0 rfl dX4_highestBits_14
theorem c_X4_highestBits (l : Launch) (dC : Nat → ClassId) (dI : Nat → Nat → Nat) (cI cJ : ClassId) (n : Int32) : RoL l yX4_highestBits wsX4_highestBits rm_X4_highestBits (dC, dI) [(cI, .int), (cJ, .long)] [] [.int n] (F_X4_highestBits n ) := by
  refine RoL.mk (cc := cX4_highestBits) (nL := 1) (ret := (some .long)) [(0, .int n)] (by decide) rfl (Nat.le_of_ble_eq_true rfl) rfl ?_
  intro p e s m below meth c C0 hP hK ls hl
  exact w_X4_highestBits dC dI cI cJ n C0 hK hP rfl ls hl
