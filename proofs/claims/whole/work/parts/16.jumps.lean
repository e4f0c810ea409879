-- booleans
def Bz (x : Int32) : Prop := x = 0 ∨ x = 1
theorem Bz.nar {x : Int32} (h : Bz x) : narrow .boolean (.int x) = .int x := by
  rcases h with rfl | rfl <;> rfl
theorem Bz.ite {x y : Int32} {p : Prop} [Decidable p] (hx : Bz x) (hy : Bz y) : Bz (if p then x else y) := by
  split
  · exact hx
  · exact hy
theorem Bz.o : Bz 0 := Or.inl rfl
theorem Bz.l : Bz 1 := Or.inr rfl
theorem bz_isZero (a : Int64) : Bz (F_X4_isZero a) := by
  unfold F_X4_isZero
  repeat' split
  all_goals first | exact Bz.o | exact Bz.l
theorem bz_isNegative (a : Int64) : Bz (F_X4_isNegative a) := by
  unfold F_X4_isNegative
  repeat' split
  all_goals first | exact Bz.o | exact Bz.l

-- J13_compare_74951
def F_J13_compare_74951 (a : Int64) (b : Int64) : Int32 :=
  (if b ≤ a then (if a = b then (0 : Int32) else (1 : Int32)) else (-1 : Int32))
abbrev rm_J13_compare_74951 : Room := { frames := 0, cells := 0, slots := 0, locals := 0 }
set_option maxHeartbeats 4000000 in
set_option maxRecDepth 100000 in
theorem w_J13_compare_74951 {p : Program} {l : Launch} {e : Env} {s : State} {m : MethodId} {below : List Frame} {meth : Method} {c : Code} {args : Array Value} (dC : Nat → ClassId) (dI : Nat → Nat → Nat) (cI cJ : ClassId) (a : Int64) (b : Int64) (C0 : Cx p s m meth c cJ13_compare_74951 4 (some .int) wsJ13_compare_74951 RJ13 args) (hK : va_K (dC, dI) vwCl [(cI, .int), (cJ, .long)] s) (hP : va_P (dC, dI) vwCl [] s.heap) {V : Int32} (hV : (F_J13_compare_74951 a b ) = V) (ls : Array Slot) (hl : lv_has ls 4 [(0, .long a), (2, .long b)]) : W p l e rm_J13_compare_74951 s m args below meth c s.heap [] 0 0 (MQ below (vp_Si (fun r => r = V)) args s 0 0 (fun _ => False)) (F0 m 0 ls []) := by
  obtain ⟨hx, hb, hr, hlk, hml, hown, hts⟩ := id C0
  refine lv_lload_n hx hb dJ13_compare_74951_0 rfl (lv_at hl 0 rfl) ?_
  refine lv_lload_n hx hb dJ13_compare_74951_1 rfl (lv_at hl 1 rfl) ?_
  refine lc_ge (x := a) (y := b) (tgt := 10) hx hb dJ13_compare_74951_2 dJ13_compare_74951_3 (by decide) (fun c1 => ?_) (fun c1 => ?_)
  · refine lv_lload_n hx hb dJ13_compare_74951_10 rfl (lv_at hl 0 rfl) ?_
    refine lv_lload_n hx hb dJ13_compare_74951_11 rfl (lv_at hl 1 rfl) ?_
    refine lc_ne (x := a) (y := b) (tgt := 20) hx hb dJ13_compare_74951_12 dJ13_compare_74951_13 (by decide) (fun c2 => ?_) (fun c2 => ?_)
    · refine lv_iconst (v := (1 : Int32)) hx hb dJ13_compare_74951_20 (by decide) ?_
      have e9 : (F_J13_compare_74951 a b ) = (1 : Int32) := by rw [F_J13_compare_74951, if_pos c1, if_neg c2]
      rw [e9] at hV
      subst hV
      exact roRetI C0 rfl dJ13_compare_74951_21
    · refine lv_iconst (v := (0 : Int32)) hx hb dJ13_compare_74951_16 (by decide) ?_
      refine lv_goto (tgt := 21) hx hb dJ13_compare_74951_17 (by decide) ?_
      have e9 : (F_J13_compare_74951 a b ) = (0 : Int32) := by rw [F_J13_compare_74951, if_pos c1, if_pos c2]
      rw [e9] at hV
      subst hV
      exact roRetI C0 rfl dJ13_compare_74951_21
  · refine lv_iconst (v := (-1 : Int32)) hx hb dJ13_compare_74951_6 (by decide) ?_
    refine lv_goto (tgt := 21) hx hb dJ13_compare_74951_7 (by decide) ?_
    have e9 : (F_J13_compare_74951 a b ) = (-1 : Int32) := by rw [F_J13_compare_74951, if_neg c1]
    rw [e9] at hV
    subst hV
    exact roRetI C0 rfl dJ13_compare_74951_21
theorem c_J13_compare_74951 (l : Launch) (dC : Nat → ClassId) (dI : Nat → Nat → Nat) (cI cJ : ClassId) (a : Int64) (b : Int64) : RoI l yJ13_compare_74951 wsJ13_compare_74951 rm_J13_compare_74951 (dC, dI) [(cI, .int), (cJ, .long)] [] [.long a, .long b] (F_J13_compare_74951 a b ) := by
  refine RoI.mk (cc := cJ13_compare_74951) (nL := 4) (ret := (some .int)) [(0, .long a), (2, .long b)] (by decide) rfl (Nat.le_of_ble_eq_true rfl) rfl ?_
  intro p e s m below meth c C0 hP hK ls hl
  exact w_J13_compare_74951 dC dI cI cJ a b C0 hK hP rfl ls hl

-- X2_wayBack
def F_X2_wayBack (w : Int32) : Int64 :=
  ((72057594037927936 : Int64) ||| ((w + (1 : Int32)).toInt64 <<< ((30 : Int32).toInt64 &&& 63)))
abbrev rm_X2_wayBack : Room := { frames := 0, cells := 0, slots := 0, locals := 0 }
set_option maxRecDepth 20000 in
theorem mm_X2_wayBack_k51 : Cond.constantLong RX2 51 (72057594037927936) ∈ wsX2_wayBack := by decide +kernel
set_option maxHeartbeats 4000000 in
set_option maxRecDepth 100000 in
theorem w_X2_wayBack {p : Program} {l : Launch} {e : Env} {s : State} {m : MethodId} {below : List Frame} {meth : Method} {c : Code} {args : Array Value} (dC : Nat → ClassId) (dI : Nat → Nat → Nat) (cI cJ : ClassId) (w : Int32) (C0 : Cx p s m meth c cX2_wayBack 1 (some .long) wsX2_wayBack RX2 args) (hK : va_K (dC, dI) vwCl [(cI, .int), (cJ, .long)] s) (hP : va_P (dC, dI) vwCl [] s.heap) {V : Int64} (hV : (F_X2_wayBack w ) = V) (ls : Array Slot) (hl : lv_has ls 1 [(0, .int w)]) : W p l e rm_X2_wayBack s m args below meth c s.heap [] 0 0 (MQ below (vp_Sl (fun r => r = V)) args s 0 0 (fun _ => False)) (F0 m 0 ls []) := by
  obtain ⟨hx, hb, hr, hlk, hml, hown, hts⟩ := id C0
  refine lv_ldc2 (v := (72057594037927936 : Int64)) hx hb hown (hts _ mm_X2_wayBack_k51) dX2_wayBack_0 ?_
  refine lv_iload_n hx hb dX2_wayBack_3 rfl (lv_at hl 0 rfl) ?_
  refine lv_iconst (v := (1 : Int32)) hx hb dX2_wayBack_4 (by decide) ?_
  refine lv_iadd hx hb dX2_wayBack_5 ?_
  refine lv_i2l hx hb dX2_wayBack_6 rfl ?_
  refine lv_bipush (v := (30 : Int32)) hx hb dX2_wayBack_7 (by decide) ?_
  refine lv_lshl hx hb dX2_wayBack_9 rfl ?_
  refine lv_lor hx hb dX2_wayBack_10 ?_
  have e9 : (F_X2_wayBack w ) = ((72057594037927936 : Int64) ||| ((w + (1 : Int32)).toInt64 <<< ((30 : Int32).toInt64 &&& 63))) := by rw [F_X2_wayBack]
  rw [e9] at hV
  subst hV
  exact roRetL C0 rfl dX2_wayBack_11
theorem c_X2_wayBack (l : Launch) (dC : Nat → ClassId) (dI : Nat → Nat → Nat) (cI cJ : ClassId) (w : Int32) : RoL l yX2_wayBack wsX2_wayBack rm_X2_wayBack (dC, dI) [(cI, .int), (cJ, .long)] [] [.int w] (F_X2_wayBack w ) := by
  refine RoL.mk (cc := cX2_wayBack) (nL := 1) (ret := (some .long)) [(0, .int w)] (by decide) rfl (Nat.le_of_ble_eq_true rfl) rfl ?_
  intro p e s m below meth c C0 hP hK ls hl
  exact w_X2_wayBack dC dI cI cJ w C0 hK hP rfl ls hl

-- X2_wordHolds
def F_X2_wordHolds (t : Int32) (a : Int64) : Int32 :=
  (if t = (0 : Int32) then (F_X4_isZero a) else (if t = (1 : Int32) then (if (F_X4_isZero a) = 0 then (1 : Int32) else (0 : Int32)) else (if t = (2 : Int32) then (if (F_X4_isNegative a) = 0 then (1 : Int32) else (0 : Int32)) else (F_X4_isNegative a))))
abbrev rm_X2_wordHolds : Room := { frames := 1, cells := 0, slots := 0, locals := 21 }
set_option maxRecDepth 20000 in
theorem mm_X2_wordHolds_iX4 : Cond.initialized RX4 ∈ wsX2_wordHolds := by decide +kernel
set_option maxRecDepth 20000 in
theorem mm_X2_wordHolds_l53 : Cond.methodLink RX2 53 yX4_isZero ∈ wsX2_wordHolds := by decide +kernel
set_option maxRecDepth 20000 in
theorem mm_X2_wordHolds_l57 : Cond.methodLink RX2 57 yX4_isNegative ∈ wsX2_wordHolds := by decide +kernel
set_option maxRecDepth 20000 in
theorem mm_X2_wordHolds_tX4_isNegative : Cond.static yX4_isNegative ∈ wsX2_wordHolds := by decide +kernel
set_option maxRecDepth 20000 in
theorem mm_X2_wordHolds_tX4_isZero : Cond.static yX4_isZero ∈ wsX2_wordHolds := by decide +kernel
set_option maxHeartbeats 4000000 in
set_option maxRecDepth 100000 in
theorem w_X2_wordHolds {p : Program} {l : Launch} {e : Env} {s : State} {m : MethodId} {below : List Frame} {meth : Method} {c : Code} {args : Array Value} (dC : Nat → ClassId) (dI : Nat → Nat → Nat) (cI cJ : ClassId) (t : Int32) (a : Int64) (C0 : Cx p s m meth c cX2_wordHolds 3 (some .boolean) wsX2_wordHolds RX2 args) (hK : va_K (dC, dI) vwCl [(cI, .int), (cJ, .long)] s) (hP : va_P (dC, dI) vwCl [] s.heap) {V : Int32} (hV : (F_X2_wordHolds t a ) = V) (ls : Array Slot) (hl : lv_has ls 3 [(0, .int t), (1, .long a)]) : W p l e rm_X2_wordHolds s m args below meth c s.heap [] 0 0 (MQ below (vp_Si (fun r => r = V)) args s 0 0 (fun _ => False)) (F0 m 0 ls []) := by
  obtain ⟨hx, hb, hr, hlk, hml, hown, hts⟩ := id C0
  refine lv_iload_n hx hb dX2_wordHolds_0 rfl (lv_at hl 0 rfl) ?_
  by_cases c1 : t = (0 : Int32)
  · refine lv_tableIn (tgt := 28) hx hb dX2_wordHolds_1 (by rw [c1]; decide) (by rw [c1]; decide) (by rw [c1]; rfl) (by decide) ?_
    refine lv_lload_n hx hb dX2_wordHolds_28 rfl (lv_at hl 1 rfl) ?_
    refine roSi (As := [.long a]) (rest := []) (bytes := cX4_isZero) (maxL := 2) (rty := (some .boolean)) (n := 1) C0 (c_X4_isZero l dC dI cI cJ a) ⟨rfl, rfl, rfl, by decide +kernel, by decide, by decide⟩ ggX2_wordHolds_X4_isZero mm_X2_wordHolds_iX4 mm_X2_wordHolds_l53 mm_X2_wordHolds_tX4_isZero (hP.sub (ws' := []) [] rfl) hK hl.1 rfl rfl (Nat.le_of_ble_eq_true rfl) dX2_wordHolds_29 ⟨Nat.zero_le _, Nat.zero_le _⟩ ?_
    have e9 : (F_X2_wordHolds t a ) = (F_X4_isZero a) := by rw [F_X2_wordHolds, if_pos c1]
    rw [e9] at hV
    subst hV
    exact roRetZ C0 (by first | rfl | exact (bz_isZero _).nar | exact (bz_isNegative _).nar) rfl dX2_wordHolds_32
  by_cases c2 : t = (1 : Int32)
  · refine lv_tableIn (tgt := 33) hx hb dX2_wordHolds_1 (by rw [c2]; decide) (by rw [c2]; decide) (by rw [c2]; rfl) (by decide) ?_
    refine lv_lload_n hx hb dX2_wordHolds_33 rfl (lv_at hl 1 rfl) ?_
    refine roSi (As := [.long a]) (rest := []) (bytes := cX4_isZero) (maxL := 2) (rty := (some .boolean)) (n := 1) C0 (c_X4_isZero l dC dI cI cJ a) ⟨rfl, rfl, rfl, by decide +kernel, by decide, by decide⟩ ggX2_wordHolds_X4_isZero mm_X2_wordHolds_iX4 mm_X2_wordHolds_l53 mm_X2_wordHolds_tX4_isZero (hP.sub (ws' := []) [] rfl) hK hl.1 rfl rfl (Nat.le_of_ble_eq_true rfl) dX2_wordHolds_34 ⟨Nat.zero_le _, Nat.zero_le _⟩ ?_
    refine lv_if_ne (x := (F_X4_isZero a)) (tgt := 44) hx hb dX2_wordHolds_37 (by decide) (fun c3 => ?_) (fun c3 => ?_)
    · refine lv_iconst (v := (0 : Int32)) hx hb dX2_wordHolds_44 (by decide) ?_
      have e9 : (F_X2_wordHolds t a ) = (0 : Int32) := by rw [F_X2_wordHolds, if_neg c1, if_pos c2, if_neg c3]
      rw [e9] at hV
      subst hV
      exact roRetZ C0 (by first | rfl | exact (bz_isZero _).nar | exact (bz_isNegative _).nar) rfl dX2_wordHolds_45
    · refine lv_iconst (v := (1 : Int32)) hx hb dX2_wordHolds_40 (by decide) ?_
      refine lv_goto (tgt := 45) hx hb dX2_wordHolds_41 (by decide) ?_
      have e9 : (F_X2_wordHolds t a ) = (1 : Int32) := by rw [F_X2_wordHolds, if_neg c1, if_pos c2, if_pos c3]
      rw [e9] at hV
      subst hV
      exact roRetZ C0 (by first | rfl | exact (bz_isZero _).nar | exact (bz_isNegative _).nar) rfl dX2_wordHolds_45
  by_cases c4 : t = (2 : Int32)
  · refine lv_tableIn (tgt := 46) hx hb dX2_wordHolds_1 (by rw [c4]; decide) (by rw [c4]; decide) (by rw [c4]; rfl) (by decide) ?_
    refine lv_lload_n hx hb dX2_wordHolds_46 rfl (lv_at hl 1 rfl) ?_
    refine roSi (As := [.long a]) (rest := []) (bytes := cX4_isNegative) (maxL := 2) (rty := (some .boolean)) (n := 1) C0 (c_X4_isNegative l dC dI cI cJ a) ⟨rfl, rfl, rfl, by decide +kernel, by decide, by decide⟩ ggX2_wordHolds_X4_isNegative mm_X2_wordHolds_iX4 mm_X2_wordHolds_l57 mm_X2_wordHolds_tX4_isNegative (hP.sub (ws' := []) [] rfl) hK hl.1 rfl rfl (Nat.le_of_ble_eq_true rfl) dX2_wordHolds_47 ⟨Nat.zero_le _, Nat.zero_le _⟩ ?_
    refine lv_if_ne (x := (F_X4_isNegative a)) (tgt := 57) hx hb dX2_wordHolds_50 (by decide) (fun c5 => ?_) (fun c5 => ?_)
    · refine lv_iconst (v := (0 : Int32)) hx hb dX2_wordHolds_57 (by decide) ?_
      have e9 : (F_X2_wordHolds t a ) = (0 : Int32) := by rw [F_X2_wordHolds, if_neg c1, if_neg c2, if_pos c4, if_neg c5]
      rw [e9] at hV
      subst hV
      exact roRetZ C0 (by first | rfl | exact (bz_isZero _).nar | exact (bz_isNegative _).nar) rfl dX2_wordHolds_58
    · refine lv_iconst (v := (1 : Int32)) hx hb dX2_wordHolds_53 (by decide) ?_
      refine lv_goto (tgt := 58) hx hb dX2_wordHolds_54 (by decide) ?_
      have e9 : (F_X2_wordHolds t a ) = (1 : Int32) := by rw [F_X2_wordHolds, if_neg c1, if_neg c2, if_pos c4, if_pos c5]
      rw [e9] at hV
      subst hV
      exact roRetZ C0 (by first | rfl | exact (bz_isZero _).nar | exact (bz_isNegative _).nar) rfl dX2_wordHolds_58
  refine lv_tableOut (tgt := 59) hx hb dX2_wordHolds_1 (by have q0 := lv_neT (a := 0) c1 (by decide); have q1 := lv_neT (a := 1) c2 (by decide); have q2 := lv_neT (a := 2) c4 (by decide); omega) (by decide) ?_
  refine lv_lload_n hx hb dX2_wordHolds_59 rfl (lv_at hl 1 rfl) ?_
  refine roSi (As := [.long a]) (rest := []) (bytes := cX4_isNegative) (maxL := 2) (rty := (some .boolean)) (n := 1) C0 (c_X4_isNegative l dC dI cI cJ a) ⟨rfl, rfl, rfl, by decide +kernel, by decide, by decide⟩ ggX2_wordHolds_X4_isNegative mm_X2_wordHolds_iX4 mm_X2_wordHolds_l57 mm_X2_wordHolds_tX4_isNegative (hP.sub (ws' := []) [] rfl) hK hl.1 rfl rfl (Nat.le_of_ble_eq_true rfl) dX2_wordHolds_60 ⟨Nat.zero_le _, Nat.zero_le _⟩ ?_
  have e9 : (F_X2_wordHolds t a ) = (F_X4_isNegative a) := by rw [F_X2_wordHolds, if_neg c1, if_neg c2, if_neg c4]
  rw [e9] at hV
  subst hV
  exact roRetZ C0 (by first | rfl | exact (bz_isZero _).nar | exact (bz_isNegative _).nar) rfl dX2_wordHolds_63
theorem c_X2_wordHolds (l : Launch) (dC : Nat → ClassId) (dI : Nat → Nat → Nat) (cI cJ : ClassId) (t : Int32) (a : Int64) : RoI l yX2_wordHolds wsX2_wordHolds rm_X2_wordHolds (dC, dI) [(cI, .int), (cJ, .long)] [] [.int t, .long a] (F_X2_wordHolds t a ) := by
  refine RoI.mk (cc := cX2_wordHolds) (nL := 3) (ret := (some .boolean)) [(0, .int t), (1, .long a)] (by decide) rfl (Nat.le_of_ble_eq_true rfl) rfl ?_
  intro p e s m below meth c C0 hP hK ls hl
  exact w_X2_wordHolds dC dI cI cJ t a C0 hK hP rfl ls hl

-- X2_shortsHold
def F_X2_shortsHold (o : Int32) (a : Int64) (b : Int64) : Int32 :=
  (if o = (4 : Int32) then (if (F_J13_compare_74951 (F_X4_plain a) (F_X4_plain b)) = 0 then (1 : Int32) else (0 : Int32)) else (if o = (5 : Int32) then (if (F_J13_compare_74951 (F_X4_plain a) (F_X4_plain b)) = 0 then (0 : Int32) else (1 : Int32)) else (if o = (6 : Int32) then (if (F_J13_compare_74951 (F_X4_plain a) (F_X4_plain b)) < 0 then (0 : Int32) else (1 : Int32)) else (if 0 ≤ (F_J13_compare_74951 (F_X4_plain a) (F_X4_plain b)) then (0 : Int32) else (1 : Int32)))))
abbrev rm_X2_shortsHold : Room := { frames := 2, cells := 0, slots := 0, locals := 42 }
set_option maxRecDepth 20000 in
theorem mm_X2_shortsHold_iJ13 : Cond.initialized RJ13 ∈ wsX2_shortsHold := by decide +kernel
set_option maxRecDepth 20000 in
theorem mm_X2_shortsHold_iX4 : Cond.initialized RX4 ∈ wsX2_shortsHold := by decide +kernel
set_option maxRecDepth 20000 in
theorem mm_X2_shortsHold_l60 : Cond.methodLink RX2 60 yX4_plain ∈ wsX2_shortsHold := by decide +kernel
set_option maxRecDepth 20000 in
theorem mm_X2_shortsHold_l64 : Cond.methodLink RX2 64 yJ13_compare_74951 ∈ wsX2_shortsHold := by decide +kernel
set_option maxRecDepth 20000 in
theorem mm_X2_shortsHold_tJ13_compare_74951 : Cond.static yJ13_compare_74951 ∈ wsX2_shortsHold := by decide +kernel
set_option maxRecDepth 20000 in
theorem mm_X2_shortsHold_tX4_plain : Cond.static yX4_plain ∈ wsX2_shortsHold := by decide +kernel
set_option maxHeartbeats 4000000 in
set_option maxRecDepth 100000 in
theorem w_X2_shortsHold {p : Program} {l : Launch} {e : Env} {s : State} {m : MethodId} {below : List Frame} {meth : Method} {c : Code} {args : Array Value} (dC : Nat → ClassId) (dI : Nat → Nat → Nat) (cI cJ : ClassId) (o : Int32) (a : Int64) (b : Int64) (C0 : Cx p s m meth c cX2_shortsHold 6 (some .boolean) wsX2_shortsHold RX2 args) (hK : va_K (dC, dI) vwCl [(cI, .int), (cJ, .long)] s) (hP : va_P (dC, dI) vwCl [] s.heap) {V : Int32} (hV : (F_X2_shortsHold o a b ) = V) (ls : Array Slot) (hl : lv_has ls 6 [(0, .int o), (1, .long a), (3, .long b)]) : W p l e rm_X2_shortsHold s m args below meth c s.heap [] 0 0 (MQ below (vp_Si (fun r => r = V)) args s 0 0 (fun _ => False)) (F0 m 0 ls []) := by
  obtain ⟨hx, hb, hr, hlk, hml, hown, hts⟩ := id C0
  refine lv_lload_n hx hb dX2_shortsHold_0 rfl (lv_at hl 1 rfl) ?_
  refine roSl (As := [.long a]) (rest := []) (bytes := cX4_plain) (maxL := 2) (rty := (some .long)) (n := 1) C0 (c_X4_plain l dC dI cI cJ a) ⟨rfl, rfl, rfl, by decide +kernel, by decide, by decide⟩ ggX2_shortsHold_X4_plain mm_X2_shortsHold_iX4 mm_X2_shortsHold_l60 mm_X2_shortsHold_tX4_plain (hP.sub (ws' := []) [] rfl) hK hl.1 rfl rfl (Nat.le_of_ble_eq_true rfl) dX2_shortsHold_1 ⟨Nat.zero_le _, Nat.zero_le _⟩ ?_
  refine lv_lload_n hx hb dX2_shortsHold_4 rfl (lv_at hl 2 rfl) ?_
  refine roSl (As := [.long b]) (rest := [.long (F_X4_plain a)]) (bytes := cX4_plain) (maxL := 2) (rty := (some .long)) (n := 1) C0 (c_X4_plain l dC dI cI cJ b) ⟨rfl, rfl, rfl, by decide +kernel, by decide, by decide⟩ ggX2_shortsHold_X4_plain mm_X2_shortsHold_iX4 mm_X2_shortsHold_l60 mm_X2_shortsHold_tX4_plain (hP.sub (ws' := []) [] rfl) hK hl.1 rfl rfl (Nat.le_of_ble_eq_true rfl) dX2_shortsHold_5 ⟨Nat.zero_le _, Nat.zero_le _⟩ ?_
  refine roSi (As := [.long (F_X4_plain a), .long (F_X4_plain b)]) (rest := []) (bytes := cJ13_compare_74951) (maxL := 4) (rty := (some .int)) (n := 2) C0 (c_J13_compare_74951 l dC dI cI cJ (F_X4_plain a) (F_X4_plain b)) ⟨rfl, rfl, rfl, by decide +kernel, by decide, by decide⟩ ggX2_shortsHold_J13_compare_74951 mm_X2_shortsHold_iJ13 mm_X2_shortsHold_l64 mm_X2_shortsHold_tJ13_compare_74951 (hP.sub (ws' := []) [] rfl) hK hl.1 rfl rfl (Nat.le_of_ble_eq_true rfl) dX2_shortsHold_8 ⟨Nat.zero_le _, Nat.zero_le _⟩ ?_
  refine lv_istore (lv' := [(5, .int (F_J13_compare_74951 (F_X4_plain a) (F_X4_plain b))), (0, .int o), (1, .long a), (3, .long b)]) hx hb dX2_shortsHold_11 hl (by decide) rfl (fun ls hl => ?_)
  refine lv_iload_n hx hb dX2_shortsHold_13 rfl (lv_at hl 1 rfl) ?_
  by_cases c1 : o = (4 : Int32)
  · refine lv_tableIn (tgt := 40) hx hb dX2_shortsHold_14 (by rw [c1]; decide) (by rw [c1]; decide) (by rw [c1]; rfl) (by decide) ?_
    refine lv_iload hx hb dX2_shortsHold_40 (lv_at hl 0 rfl) ?_
    refine lv_if_ne (x := (F_J13_compare_74951 (F_X4_plain a) (F_X4_plain b))) (tgt := 49) hx hb dX2_shortsHold_42 (by decide) (fun c2 => ?_) (fun c2 => ?_)
    · refine lv_iconst (v := (0 : Int32)) hx hb dX2_shortsHold_49 (by decide) ?_
      have e9 : (F_X2_shortsHold o a b ) = (0 : Int32) := by rw [F_X2_shortsHold, if_pos c1, if_neg c2]
      rw [e9] at hV
      subst hV
      exact roRetZ C0 rfl rfl dX2_shortsHold_50
    · refine lv_iconst (v := (1 : Int32)) hx hb dX2_shortsHold_45 (by decide) ?_
      refine lv_goto (tgt := 50) hx hb dX2_shortsHold_46 (by decide) ?_
      have e9 : (F_X2_shortsHold o a b ) = (1 : Int32) := by rw [F_X2_shortsHold, if_pos c1, if_pos c2]
      rw [e9] at hV
      subst hV
      exact roRetZ C0 rfl rfl dX2_shortsHold_50
  by_cases c3 : o = (5 : Int32)
  · refine lv_tableIn (tgt := 51) hx hb dX2_shortsHold_14 (by rw [c3]; decide) (by rw [c3]; decide) (by rw [c3]; rfl) (by decide) ?_
    refine lv_iload hx hb dX2_shortsHold_51 (lv_at hl 0 rfl) ?_
    refine lv_if_eq (x := (F_J13_compare_74951 (F_X4_plain a) (F_X4_plain b))) (tgt := 60) hx hb dX2_shortsHold_53 (by decide) (fun c4 => ?_) (fun c4 => ?_)
    · refine lv_iconst (v := (0 : Int32)) hx hb dX2_shortsHold_60 (by decide) ?_
      have e9 : (F_X2_shortsHold o a b ) = (0 : Int32) := by rw [F_X2_shortsHold, if_neg c1, if_pos c3, if_pos c4]
      rw [e9] at hV
      subst hV
      exact roRetZ C0 rfl rfl dX2_shortsHold_61
    · refine lv_iconst (v := (1 : Int32)) hx hb dX2_shortsHold_56 (by decide) ?_
      refine lv_goto (tgt := 61) hx hb dX2_shortsHold_57 (by decide) ?_
      have e9 : (F_X2_shortsHold o a b ) = (1 : Int32) := by rw [F_X2_shortsHold, if_neg c1, if_pos c3, if_neg c4]
      rw [e9] at hV
      subst hV
      exact roRetZ C0 rfl rfl dX2_shortsHold_61
  by_cases c5 : o = (6 : Int32)
  · refine lv_tableIn (tgt := 62) hx hb dX2_shortsHold_14 (by rw [c5]; decide) (by rw [c5]; decide) (by rw [c5]; rfl) (by decide) ?_
    refine lv_iload hx hb dX2_shortsHold_62 (lv_at hl 0 rfl) ?_
    refine lv_if_lt (x := (F_J13_compare_74951 (F_X4_plain a) (F_X4_plain b))) (tgt := 71) hx hb dX2_shortsHold_64 (by decide) (fun c6 => ?_) (fun c6 => ?_)
    · refine lv_iconst (v := (0 : Int32)) hx hb dX2_shortsHold_71 (by decide) ?_
      have e9 : (F_X2_shortsHold o a b ) = (0 : Int32) := by rw [F_X2_shortsHold, if_neg c1, if_neg c3, if_pos c5, if_pos c6]
      rw [e9] at hV
      subst hV
      exact roRetZ C0 rfl rfl dX2_shortsHold_72
    · refine lv_iconst (v := (1 : Int32)) hx hb dX2_shortsHold_67 (by decide) ?_
      refine lv_goto (tgt := 72) hx hb dX2_shortsHold_68 (by decide) ?_
      have e9 : (F_X2_shortsHold o a b ) = (1 : Int32) := by rw [F_X2_shortsHold, if_neg c1, if_neg c3, if_pos c5, if_neg c6]
      rw [e9] at hV
      subst hV
      exact roRetZ C0 rfl rfl dX2_shortsHold_72
  refine lv_tableOut (tgt := 73) hx hb dX2_shortsHold_14 (by have q4 := lv_neT (a := 4) c1 (by decide); have q5 := lv_neT (a := 5) c3 (by decide); have q6 := lv_neT (a := 6) c5 (by decide); omega) (by decide) ?_
  refine lv_iload hx hb dX2_shortsHold_73 (lv_at hl 0 rfl) ?_
  refine lv_if_ge (x := (F_J13_compare_74951 (F_X4_plain a) (F_X4_plain b))) (tgt := 82) hx hb dX2_shortsHold_75 (by decide) (fun c7 => ?_) (fun c7 => ?_)
  · refine lv_iconst (v := (0 : Int32)) hx hb dX2_shortsHold_82 (by decide) ?_
    have e9 : (F_X2_shortsHold o a b ) = (0 : Int32) := by rw [F_X2_shortsHold, if_neg c1, if_neg c3, if_neg c5, if_pos c7]
    rw [e9] at hV
    subst hV
    exact roRetZ C0 rfl rfl dX2_shortsHold_83
  · refine lv_iconst (v := (1 : Int32)) hx hb dX2_shortsHold_78 (by decide) ?_
    refine lv_goto (tgt := 83) hx hb dX2_shortsHold_79 (by decide) ?_
    have e9 : (F_X2_shortsHold o a b ) = (1 : Int32) := by rw [F_X2_shortsHold, if_neg c1, if_neg c3, if_neg c5, if_neg c7]
    rw [e9] at hV
    subst hV
    exact roRetZ C0 rfl rfl dX2_shortsHold_83
theorem c_X2_shortsHold (l : Launch) (dC : Nat → ClassId) (dI : Nat → Nat → Nat) (cI cJ : ClassId) (o : Int32) (a : Int64) (b : Int64) : RoI l yX2_shortsHold wsX2_shortsHold rm_X2_shortsHold (dC, dI) [(cI, .int), (cJ, .long)] [] [.int o, .long a, .long b] (F_X2_shortsHold o a b ) := by
  refine RoI.mk (cc := cX2_shortsHold) (nL := 6) (ret := (some .boolean)) [(0, .int o), (1, .long a), (3, .long b)] (by decide) rfl (Nat.le_of_ble_eq_true rfl) rfl ?_
  intro p e s m below meth c C0 hP hK ls hl
  exact w_X2_shortsHold dC dI cI cJ o a b C0 hK hP rfl ls hl

theorem bz_wordHolds (t : Int32) (a : Int64) : Bz (F_X2_wordHolds t a) := by
  unfold F_X2_wordHolds
  repeat' split
  all_goals first | exact Bz.o | exact Bz.l | exact bz_isZero _ | exact bz_isNegative _
theorem bz_shortsHold (o : Int32) (a b : Int64) : Bz (F_X2_shortsHold o a b) := by
  unfold F_X2_shortsHold
  repeat' split
  all_goals first | exact Bz.o | exact Bz.l

-- X2_goesElsewhere
def F_X2_goesElsewhere (iop : Int32) (ii : Int32) (ij : Int32) (gv : Nat → Int64) : Int32 :=
  (if (F_X1_op iop) = (1 : Int32) then (1 : Int32) else (if (F_X1_op iop) = (2 : Int32) then (1 : Int32) else (if (F_X1_op iop) = (3 : Int32) then (F_X2_wordHolds (F_X1_i ii) (F_X6_x (F_X1_j ij) gv)) else (F_X2_shortsHold (F_X1_op iop) (F_X6_b (F_X1_i ii) gv) (F_X6_b (F_X1_j ij) gv)))))
abbrev rm_X2_goesElsewhere : Room := { frames := 3, cells := 0, slots := 0, locals := 67 }
set_option maxRecDepth 20000 in
theorem mm_X2_goesElsewhere_iX1 : Cond.initialized RX1 ∈ wsX2_goesElsewhere := by decide +kernel
set_option maxRecDepth 20000 in
theorem mm_X2_goesElsewhere_iX2 : Cond.initialized RX2 ∈ wsX2_goesElsewhere := by decide +kernel
set_option maxRecDepth 20000 in
theorem mm_X2_goesElsewhere_iX6 : Cond.initialized RX6 ∈ wsX2_goesElsewhere := by decide +kernel
set_option maxRecDepth 20000 in
theorem mm_X2_goesElsewhere_l15 : Cond.methodLink RX2 15 yX1_i ∈ wsX2_goesElsewhere := by decide +kernel
set_option maxRecDepth 20000 in
theorem mm_X2_goesElsewhere_l18 : Cond.methodLink RX2 18 yX1_j ∈ wsX2_goesElsewhere := by decide +kernel
set_option maxRecDepth 20000 in
theorem mm_X2_goesElsewhere_l21 : Cond.methodLink RX2 21 yX6_x ∈ wsX2_goesElsewhere := by decide +kernel
set_option maxRecDepth 20000 in
theorem mm_X2_goesElsewhere_l27 : Cond.methodLink RX2 27 yX2_wordHolds ∈ wsX2_goesElsewhere := by decide +kernel
set_option maxRecDepth 20000 in
theorem mm_X2_goesElsewhere_l33 : Cond.methodLink RX2 33 yX6_b ∈ wsX2_goesElsewhere := by decide +kernel
set_option maxRecDepth 20000 in
theorem mm_X2_goesElsewhere_l36 : Cond.methodLink RX2 36 yX2_shortsHold ∈ wsX2_goesElsewhere := by decide +kernel
set_option maxRecDepth 20000 in
theorem mm_X2_goesElsewhere_l9 : Cond.methodLink RX2 9 yX1_op ∈ wsX2_goesElsewhere := by decide +kernel
set_option maxRecDepth 20000 in
theorem mm_X2_goesElsewhere_nX1_i : Cond.instanceMethod yX1_i ∈ wsX2_goesElsewhere := by decide +kernel
set_option maxRecDepth 20000 in
theorem mm_X2_goesElsewhere_nX1_j : Cond.instanceMethod yX1_j ∈ wsX2_goesElsewhere := by decide +kernel
set_option maxRecDepth 20000 in
theorem mm_X2_goesElsewhere_nX1_op : Cond.instanceMethod yX1_op ∈ wsX2_goesElsewhere := by decide +kernel
set_option maxRecDepth 20000 in
theorem mm_X2_goesElsewhere_nX6_b : Cond.instanceMethod yX6_b ∈ wsX2_goesElsewhere := by decide +kernel
set_option maxRecDepth 20000 in
theorem mm_X2_goesElsewhere_nX6_x : Cond.instanceMethod yX6_x ∈ wsX2_goesElsewhere := by decide +kernel
set_option maxRecDepth 20000 in
theorem mm_X2_goesElsewhere_sX1_i : Cond.selects RX1 yX1_i yX1_i ∈ wsX2_goesElsewhere := by decide +kernel
set_option maxRecDepth 20000 in
theorem mm_X2_goesElsewhere_sX1_j : Cond.selects RX1 yX1_j yX1_j ∈ wsX2_goesElsewhere := by decide +kernel
set_option maxRecDepth 20000 in
theorem mm_X2_goesElsewhere_sX1_op : Cond.selects RX1 yX1_op yX1_op ∈ wsX2_goesElsewhere := by decide +kernel
set_option maxRecDepth 20000 in
theorem mm_X2_goesElsewhere_sX6_b : Cond.selects RX6 yX6_b yX6_b ∈ wsX2_goesElsewhere := by decide +kernel
set_option maxRecDepth 20000 in
theorem mm_X2_goesElsewhere_sX6_x : Cond.selects RX6 yX6_x yX6_x ∈ wsX2_goesElsewhere := by decide +kernel
set_option maxRecDepth 20000 in
theorem mm_X2_goesElsewhere_tX2_shortsHold : Cond.static yX2_shortsHold ∈ wsX2_goesElsewhere := by decide +kernel
set_option maxRecDepth 20000 in
theorem mm_X2_goesElsewhere_tX2_wordHolds : Cond.static yX2_wordHolds ∈ wsX2_goesElsewhere := by decide +kernel
set_option maxHeartbeats 4000000 in
set_option maxRecDepth 100000 in
theorem w_X2_goesElsewhere {p : Program} {l : Launch} {e : Env} {s : State} {m : MethodId} {below : List Frame} {meth : Method} {c : Code} {args : Array Value} (dC : Nat → ClassId) (dI : Nat → Nat → Nat) (cI cJ : ClassId) (hI hG g1 hN hR : Nat) (iop : Int32) (ii : Int32) (ij : Int32) (ik : Int32) (ic : Int32) (ip : Int32) (iu : Int32) (gv : Nat → Int64) (C0 : Cx p s m meth c cX2_goesElsewhere 2 (some .boolean) wsX2_goesElsewhere RX2 args) (hK : va_K (dC, dI) vwCl [(cI, .int), (cJ, .long)] s) (hP : va_P (dC, dI) vwCl [(hI, .inr (1, [.int iop, .int ii, .int ij, .int ik, .int ic, .int ip, .int iu, .ref hN, .ref hR])), (hG, .inr (4, [.ref g1])), (g1, .inl (cJ, 24, .inr (.inl gv)))] s.heap) (hi : R8 ii) (hj : R8 ij) (hk : R8 ik) {V : Int32} (hV : (F_X2_goesElsewhere iop ii ij gv ) = V) (ls : Array Slot) (hl : lv_has ls 2 [(0, .ref hI), (1, .ref hG)]) : W p l e rm_X2_goesElsewhere s m args below meth c s.heap [] 0 0 (MQ below (vp_Si (fun r => r = V)) args s 0 0 (fun _ => False)) (F0 m 0 ls []) := by
  obtain ⟨hx, hb, hr, hlk, hml, hown, hts⟩ := id C0
  refine lv_aload_n hx hb dX2_goesElsewhere_0 rfl (lv_at hl 0 rfl) ?_
  refine roVi (As := []) (rest := []) (bytes := cX1_op) (maxL := 1) (rty := (some .int)) (n := 0) (ci := 1) C0 (c_X1_op l dC dI cI cJ hI hN hR iop ii ij ik ic ip iu) ⟨rfl, rfl, rfl, by decide +kernel, by decide, by decide⟩ ggX2_goesElsewhere_X1_op mm_X2_goesElsewhere_iX1 mm_X2_goesElsewhere_l9 mm_X2_goesElsewhere_nX1_op mm_X2_goesElsewhere_sX1_op rfl rfl (hP.sub (ws' := [(hI, .inr (1, [.int iop, .int ii, .int ij, .int ik, .int ic, .int ip, .int iu, .ref hN, .ref hR]))]) [0] rfl) hK hl.1 rfl rfl (Nat.le_of_ble_eq_true rfl) dX2_goesElsewhere_1 ⟨Nat.zero_le _, Nat.zero_le _⟩ ?_
  refine lv_iconst (v := (1 : Int32)) hx hb dX2_goesElsewhere_4 (by decide) ?_
  refine lv_icmp_eq (x := (F_X1_op iop)) (y := (1 : Int32)) (tgt := 16) hx hb dX2_goesElsewhere_5 (by decide) (fun c1 => ?_) (fun c1 => ?_)
  · refine lv_iconst (v := (1 : Int32)) hx hb dX2_goesElsewhere_16 (by decide) ?_
    have e9 : (F_X2_goesElsewhere iop ii ij gv ) = (1 : Int32) := by rw [F_X2_goesElsewhere, if_pos c1]
    rw [e9] at hV
    subst hV
    exact roRetZ C0 (by first | rfl | exact (bz_wordHolds _ _).nar | exact (bz_shortsHold _ _ _).nar) rfl dX2_goesElsewhere_17
  · refine lv_aload_n hx hb dX2_goesElsewhere_8 rfl (lv_at hl 0 rfl) ?_
    refine roVi (As := []) (rest := []) (bytes := cX1_op) (maxL := 1) (rty := (some .int)) (n := 0) (ci := 1) C0 (c_X1_op l dC dI cI cJ hI hN hR iop ii ij ik ic ip iu) ⟨rfl, rfl, rfl, by decide +kernel, by decide, by decide⟩ ggX2_goesElsewhere_X1_op mm_X2_goesElsewhere_iX1 mm_X2_goesElsewhere_l9 mm_X2_goesElsewhere_nX1_op mm_X2_goesElsewhere_sX1_op rfl rfl (hP.sub (ws' := [(hI, .inr (1, [.int iop, .int ii, .int ij, .int ik, .int ic, .int ip, .int iu, .ref hN, .ref hR]))]) [0] rfl) hK hl.1 rfl rfl (Nat.le_of_ble_eq_true rfl) dX2_goesElsewhere_9 ⟨Nat.zero_le _, Nat.zero_le _⟩ ?_
    refine lv_iconst (v := (2 : Int32)) hx hb dX2_goesElsewhere_12 (by decide) ?_
    refine lv_icmp_ne (x := (F_X1_op iop)) (y := (2 : Int32)) (tgt := 18) hx hb dX2_goesElsewhere_13 (by decide) (fun c2 => ?_) (fun c2 => ?_)
    · refine lv_aload_n hx hb dX2_goesElsewhere_18 rfl (lv_at hl 0 rfl) ?_
      refine roVi (As := []) (rest := []) (bytes := cX1_op) (maxL := 1) (rty := (some .int)) (n := 0) (ci := 1) C0 (c_X1_op l dC dI cI cJ hI hN hR iop ii ij ik ic ip iu) ⟨rfl, rfl, rfl, by decide +kernel, by decide, by decide⟩ ggX2_goesElsewhere_X1_op mm_X2_goesElsewhere_iX1 mm_X2_goesElsewhere_l9 mm_X2_goesElsewhere_nX1_op mm_X2_goesElsewhere_sX1_op rfl rfl (hP.sub (ws' := [(hI, .inr (1, [.int iop, .int ii, .int ij, .int ik, .int ic, .int ip, .int iu, .ref hN, .ref hR]))]) [0] rfl) hK hl.1 rfl rfl (Nat.le_of_ble_eq_true rfl) dX2_goesElsewhere_19 ⟨Nat.zero_le _, Nat.zero_le _⟩ ?_
      refine lv_iconst (v := (3 : Int32)) hx hb dX2_goesElsewhere_22 (by decide) ?_
      refine lv_icmp_ne (x := (F_X1_op iop)) (y := (3 : Int32)) (tgt := 44) hx hb dX2_goesElsewhere_23 (by decide) (fun c3 => ?_) (fun c3 => ?_)
      · refine lv_aload_n hx hb dX2_goesElsewhere_44 rfl (lv_at hl 0 rfl) ?_
        refine roVi (As := []) (rest := []) (bytes := cX1_op) (maxL := 1) (rty := (some .int)) (n := 0) (ci := 1) C0 (c_X1_op l dC dI cI cJ hI hN hR iop ii ij ik ic ip iu) ⟨rfl, rfl, rfl, by decide +kernel, by decide, by decide⟩ ggX2_goesElsewhere_X1_op mm_X2_goesElsewhere_iX1 mm_X2_goesElsewhere_l9 mm_X2_goesElsewhere_nX1_op mm_X2_goesElsewhere_sX1_op rfl rfl (hP.sub (ws' := [(hI, .inr (1, [.int iop, .int ii, .int ij, .int ik, .int ic, .int ip, .int iu, .ref hN, .ref hR]))]) [0] rfl) hK hl.1 rfl rfl (Nat.le_of_ble_eq_true rfl) dX2_goesElsewhere_45 ⟨Nat.zero_le _, Nat.zero_le _⟩ ?_
        refine lv_aload_n hx hb dX2_goesElsewhere_48 rfl (lv_at hl 1 rfl) ?_
        refine lv_aload_n hx hb dX2_goesElsewhere_49 rfl (lv_at hl 0 rfl) ?_
        refine roVi (As := []) (rest := [.ref hG, .int (F_X1_op iop)]) (bytes := cX1_i) (maxL := 1) (rty := (some .int)) (n := 0) (ci := 1) C0 (c_X1_i l dC dI cI cJ hI hN hR iop ii ij ik ic ip iu) ⟨rfl, rfl, rfl, by decide +kernel, by decide, by decide⟩ ggX2_goesElsewhere_X1_i mm_X2_goesElsewhere_iX1 mm_X2_goesElsewhere_l15 mm_X2_goesElsewhere_nX1_i mm_X2_goesElsewhere_sX1_i rfl rfl (hP.sub (ws' := [(hI, .inr (1, [.int iop, .int ii, .int ij, .int ik, .int ic, .int ip, .int iu, .ref hN, .ref hR]))]) [0] rfl) hK hl.1 rfl rfl (Nat.le_of_ble_eq_true rfl) dX2_goesElsewhere_50 ⟨Nat.zero_le _, Nat.zero_le _⟩ ?_
        refine roVl (As := [.int (F_X1_i ii)]) (rest := [.int (F_X1_op iop)]) (bytes := cX6_b) (maxL := 2) (rty := (some .long)) (n := 1) (ci := 4) C0 (c_X6_b l dC dI cI cJ hG g1 (F_X1_i ii) gv (R8.b hi)) ⟨rfl, rfl, rfl, by decide +kernel, by decide, by decide⟩ ggX2_goesElsewhere_X6_b mm_X2_goesElsewhere_iX6 mm_X2_goesElsewhere_l33 mm_X2_goesElsewhere_nX6_b mm_X2_goesElsewhere_sX6_b rfl rfl (hP.sub (ws' := [(hG, .inr (4, [.ref g1])), (g1, .inl (cJ, 24, .inr (.inl gv)))]) [1, 2] rfl) hK hl.1 rfl rfl (Nat.le_of_ble_eq_true rfl) dX2_goesElsewhere_53 ⟨Nat.zero_le _, Nat.zero_le _⟩ ?_
        refine lv_aload_n hx hb dX2_goesElsewhere_56 rfl (lv_at hl 1 rfl) ?_
        refine lv_aload_n hx hb dX2_goesElsewhere_57 rfl (lv_at hl 0 rfl) ?_
        refine roVi (As := []) (rest := [.ref hG, .long (F_X6_b (F_X1_i ii) gv), .int (F_X1_op iop)]) (bytes := cX1_j) (maxL := 1) (rty := (some .int)) (n := 0) (ci := 1) C0 (c_X1_j l dC dI cI cJ hI hN hR iop ii ij ik ic ip iu) ⟨rfl, rfl, rfl, by decide +kernel, by decide, by decide⟩ ggX2_goesElsewhere_X1_j mm_X2_goesElsewhere_iX1 mm_X2_goesElsewhere_l18 mm_X2_goesElsewhere_nX1_j mm_X2_goesElsewhere_sX1_j rfl rfl (hP.sub (ws' := [(hI, .inr (1, [.int iop, .int ii, .int ij, .int ik, .int ic, .int ip, .int iu, .ref hN, .ref hR]))]) [0] rfl) hK hl.1 rfl rfl (Nat.le_of_ble_eq_true rfl) dX2_goesElsewhere_58 ⟨Nat.zero_le _, Nat.zero_le _⟩ ?_
        refine roVl (As := [.int (F_X1_j ij)]) (rest := [.long (F_X6_b (F_X1_i ii) gv), .int (F_X1_op iop)]) (bytes := cX6_b) (maxL := 2) (rty := (some .long)) (n := 1) (ci := 4) C0 (c_X6_b l dC dI cI cJ hG g1 (F_X1_j ij) gv (R8.b hj)) ⟨rfl, rfl, rfl, by decide +kernel, by decide, by decide⟩ ggX2_goesElsewhere_X6_b mm_X2_goesElsewhere_iX6 mm_X2_goesElsewhere_l33 mm_X2_goesElsewhere_nX6_b mm_X2_goesElsewhere_sX6_b rfl rfl (hP.sub (ws' := [(hG, .inr (4, [.ref g1])), (g1, .inl (cJ, 24, .inr (.inl gv)))]) [1, 2] rfl) hK hl.1 rfl rfl (Nat.le_of_ble_eq_true rfl) dX2_goesElsewhere_61 ⟨Nat.zero_le _, Nat.zero_le _⟩ ?_
        refine roSi (As := [.int (F_X1_op iop), .long (F_X6_b (F_X1_i ii) gv), .long (F_X6_b (F_X1_j ij) gv)]) (rest := []) (bytes := cX2_shortsHold) (maxL := 6) (rty := (some .boolean)) (n := 3) C0 (c_X2_shortsHold l dC dI cI cJ (F_X1_op iop) (F_X6_b (F_X1_i ii) gv) (F_X6_b (F_X1_j ij) gv)) ⟨rfl, rfl, rfl, by decide +kernel, by decide, by decide⟩ ggX2_goesElsewhere_X2_shortsHold mm_X2_goesElsewhere_iX2 mm_X2_goesElsewhere_l36 mm_X2_goesElsewhere_tX2_shortsHold (hP.sub (ws' := []) [] rfl) hK hl.1 rfl rfl (Nat.le_of_ble_eq_true rfl) dX2_goesElsewhere_64 ⟨Nat.zero_le _, Nat.zero_le _⟩ ?_
        have e9 : (F_X2_goesElsewhere iop ii ij gv ) = (F_X2_shortsHold (F_X1_op iop) (F_X6_b (F_X1_i ii) gv) (F_X6_b (F_X1_j ij) gv)) := by rw [F_X2_goesElsewhere, if_neg c1, if_neg c2, if_neg c3]
        rw [e9] at hV
        subst hV
        exact roRetZ C0 (by first | rfl | exact (bz_wordHolds _ _).nar | exact (bz_shortsHold _ _ _).nar) rfl dX2_goesElsewhere_67
      · refine lv_aload_n hx hb dX2_goesElsewhere_26 rfl (lv_at hl 0 rfl) ?_
        refine roVi (As := []) (rest := []) (bytes := cX1_i) (maxL := 1) (rty := (some .int)) (n := 0) (ci := 1) C0 (c_X1_i l dC dI cI cJ hI hN hR iop ii ij ik ic ip iu) ⟨rfl, rfl, rfl, by decide +kernel, by decide, by decide⟩ ggX2_goesElsewhere_X1_i mm_X2_goesElsewhere_iX1 mm_X2_goesElsewhere_l15 mm_X2_goesElsewhere_nX1_i mm_X2_goesElsewhere_sX1_i rfl rfl (hP.sub (ws' := [(hI, .inr (1, [.int iop, .int ii, .int ij, .int ik, .int ic, .int ip, .int iu, .ref hN, .ref hR]))]) [0] rfl) hK hl.1 rfl rfl (Nat.le_of_ble_eq_true rfl) dX2_goesElsewhere_27 ⟨Nat.zero_le _, Nat.zero_le _⟩ ?_
        refine lv_aload_n hx hb dX2_goesElsewhere_30 rfl (lv_at hl 1 rfl) ?_
        refine lv_aload_n hx hb dX2_goesElsewhere_31 rfl (lv_at hl 0 rfl) ?_
        refine roVi (As := []) (rest := [.ref hG, .int (F_X1_i ii)]) (bytes := cX1_j) (maxL := 1) (rty := (some .int)) (n := 0) (ci := 1) C0 (c_X1_j l dC dI cI cJ hI hN hR iop ii ij ik ic ip iu) ⟨rfl, rfl, rfl, by decide +kernel, by decide, by decide⟩ ggX2_goesElsewhere_X1_j mm_X2_goesElsewhere_iX1 mm_X2_goesElsewhere_l18 mm_X2_goesElsewhere_nX1_j mm_X2_goesElsewhere_sX1_j rfl rfl (hP.sub (ws' := [(hI, .inr (1, [.int iop, .int ii, .int ij, .int ik, .int ic, .int ip, .int iu, .ref hN, .ref hR]))]) [0] rfl) hK hl.1 rfl rfl (Nat.le_of_ble_eq_true rfl) dX2_goesElsewhere_32 ⟨Nat.zero_le _, Nat.zero_le _⟩ ?_
        refine roVl (As := [.int (F_X1_j ij)]) (rest := [.int (F_X1_i ii)]) (bytes := cX6_x) (maxL := 2) (rty := (some .long)) (n := 1) (ci := 4) C0 (c_X6_x l dC dI cI cJ hG g1 (F_X1_j ij) gv (R8.x hj)) ⟨rfl, rfl, rfl, by decide +kernel, by decide, by decide⟩ ggX2_goesElsewhere_X6_x mm_X2_goesElsewhere_iX6 mm_X2_goesElsewhere_l21 mm_X2_goesElsewhere_nX6_x mm_X2_goesElsewhere_sX6_x rfl rfl (hP.sub (ws' := [(hG, .inr (4, [.ref g1])), (g1, .inl (cJ, 24, .inr (.inl gv)))]) [1, 2] rfl) hK hl.1 rfl rfl (Nat.le_of_ble_eq_true rfl) dX2_goesElsewhere_35 ⟨Nat.zero_le _, Nat.zero_le _⟩ ?_
        refine roSi (As := [.int (F_X1_i ii), .long (F_X6_x (F_X1_j ij) gv)]) (rest := []) (bytes := cX2_wordHolds) (maxL := 3) (rty := (some .boolean)) (n := 2) C0 (c_X2_wordHolds l dC dI cI cJ (F_X1_i ii) (F_X6_x (F_X1_j ij) gv)) ⟨rfl, rfl, rfl, by decide +kernel, by decide, by decide⟩ ggX2_goesElsewhere_X2_wordHolds mm_X2_goesElsewhere_iX2 mm_X2_goesElsewhere_l27 mm_X2_goesElsewhere_tX2_wordHolds (hP.sub (ws' := []) [] rfl) hK hl.1 rfl rfl (Nat.le_of_ble_eq_true rfl) dX2_goesElsewhere_38 ⟨Nat.zero_le _, Nat.zero_le _⟩ ?_
        refine lv_goto (tgt := 67) hx hb dX2_goesElsewhere_41 (by decide) ?_
        have e9 : (F_X2_goesElsewhere iop ii ij gv ) = (F_X2_wordHolds (F_X1_i ii) (F_X6_x (F_X1_j ij) gv)) := by rw [F_X2_goesElsewhere, if_neg c1, if_neg c2, if_pos c3]
        rw [e9] at hV
        subst hV
        exact roRetZ C0 (by first | rfl | exact (bz_wordHolds _ _).nar | exact (bz_shortsHold _ _ _).nar) rfl dX2_goesElsewhere_67
    · refine lv_iconst (v := (1 : Int32)) hx hb dX2_goesElsewhere_16 (by decide) ?_
      have e9 : (F_X2_goesElsewhere iop ii ij gv ) = (1 : Int32) := by rw [F_X2_goesElsewhere, if_neg c1, if_pos c2]
      rw [e9] at hV
      subst hV
      exact roRetZ C0 (by first | rfl | exact (bz_wordHolds _ _).nar | exact (bz_shortsHold _ _ _).nar) rfl dX2_goesElsewhere_17
theorem c_X2_goesElsewhere (l : Launch) (dC : Nat → ClassId) (dI : Nat → Nat → Nat) (cI cJ : ClassId) (hI hG g1 hN hR : Nat) (iop : Int32) (ii : Int32) (ij : Int32) (ik : Int32) (ic : Int32) (ip : Int32) (iu : Int32) (gv : Nat → Int64) (hi : R8 ii) (hj : R8 ij) (hk : R8 ik) : RoI l yX2_goesElsewhere wsX2_goesElsewhere rm_X2_goesElsewhere (dC, dI) [(cI, .int), (cJ, .long)] [(hI, .inr (1, [.int iop, .int ii, .int ij, .int ik, .int ic, .int ip, .int iu, .ref hN, .ref hR])), (hG, .inr (4, [.ref g1])), (g1, .inl (cJ, 24, .inr (.inl gv)))] [.ref hI, .ref hG] (F_X2_goesElsewhere iop ii ij gv ) := by
  refine RoI.mk (cc := cX2_goesElsewhere) (nL := 2) (ret := (some .boolean)) [(0, .ref hI), (1, .ref hG)] (by decide) rfl (Nat.le_of_ble_eq_true rfl) rfl ?_
  intro p e s m below meth c C0 hP hK ls hl
  exact w_X2_goesElsewhere dC dI cI cJ hI hG g1 hN hR iop ii ij ik ic ip iu gv C0 hK hP hi hj hk rfl ls hl

-- X2_target
def F_X2_target (iop : Int32) (ii : Int32) (ic : Int32) (gv : Nat → Int64) : Int32 :=
  (if (F_X1_op iop) = (1 : Int32) then ((F_X1_constant ic) + (1 : Int32)) else (if (F_X1_op iop) = (2 : Int32) then (F_X4_sum (F_X6_b (F_X1_i ii) gv) ((F_X1_constant ic).toInt64) (262143 : Int64)).toInt32 else (F_X1_constant ic)))
abbrev rm_X2_target : Room := { frames := 1, cells := 0, slots := 0, locals := 28 }
set_option maxRecDepth 20000 in
theorem mm_X2_target_iX1 : Cond.initialized RX1 ∈ wsX2_target := by decide +kernel
set_option maxRecDepth 20000 in
theorem mm_X2_target_iX4 : Cond.initialized RX4 ∈ wsX2_target := by decide +kernel
set_option maxRecDepth 20000 in
theorem mm_X2_target_iX6 : Cond.initialized RX6 ∈ wsX2_target := by decide +kernel
set_option maxRecDepth 20000 in
theorem mm_X2_target_k43 : Cond.constantLong RX2 43 (262143) ∈ wsX2_target := by decide +kernel
set_option maxRecDepth 20000 in
theorem mm_X2_target_l15 : Cond.methodLink RX2 15 yX1_i ∈ wsX2_target := by decide +kernel
set_option maxRecDepth 20000 in
theorem mm_X2_target_l33 : Cond.methodLink RX2 33 yX6_b ∈ wsX2_target := by decide +kernel
set_option maxRecDepth 20000 in
theorem mm_X2_target_l40 : Cond.methodLink RX2 40 yX1_constant ∈ wsX2_target := by decide +kernel
set_option maxRecDepth 20000 in
theorem mm_X2_target_l45 : Cond.methodLink RX2 45 yX4_sum ∈ wsX2_target := by decide +kernel
set_option maxRecDepth 20000 in
theorem mm_X2_target_l9 : Cond.methodLink RX2 9 yX1_op ∈ wsX2_target := by decide +kernel
set_option maxRecDepth 20000 in
theorem mm_X2_target_nX1_constant : Cond.instanceMethod yX1_constant ∈ wsX2_target := by decide +kernel
set_option maxRecDepth 20000 in
theorem mm_X2_target_nX1_i : Cond.instanceMethod yX1_i ∈ wsX2_target := by decide +kernel
set_option maxRecDepth 20000 in
theorem mm_X2_target_nX1_op : Cond.instanceMethod yX1_op ∈ wsX2_target := by decide +kernel
set_option maxRecDepth 20000 in
theorem mm_X2_target_nX6_b : Cond.instanceMethod yX6_b ∈ wsX2_target := by decide +kernel
set_option maxRecDepth 20000 in
theorem mm_X2_target_sX1_constant : Cond.selects RX1 yX1_constant yX1_constant ∈ wsX2_target := by decide +kernel
set_option maxRecDepth 20000 in
theorem mm_X2_target_sX1_i : Cond.selects RX1 yX1_i yX1_i ∈ wsX2_target := by decide +kernel
set_option maxRecDepth 20000 in
theorem mm_X2_target_sX1_op : Cond.selects RX1 yX1_op yX1_op ∈ wsX2_target := by decide +kernel
set_option maxRecDepth 20000 in
theorem mm_X2_target_sX6_b : Cond.selects RX6 yX6_b yX6_b ∈ wsX2_target := by decide +kernel
set_option maxRecDepth 20000 in
theorem mm_X2_target_tX4_sum : Cond.static yX4_sum ∈ wsX2_target := by decide +kernel
set_option maxHeartbeats 4000000 in
set_option maxRecDepth 100000 in
theorem w_X2_target {p : Program} {l : Launch} {e : Env} {s : State} {m : MethodId} {below : List Frame} {meth : Method} {c : Code} {args : Array Value} (dC : Nat → ClassId) (dI : Nat → Nat → Nat) (cI cJ : ClassId) (hI hG g1 hN hR : Nat) (iop : Int32) (ii : Int32) (ij : Int32) (ik : Int32) (ic : Int32) (ip : Int32) (iu : Int32) (gv : Nat → Int64) (C0 : Cx p s m meth c cX2_target 2 (some .int) wsX2_target RX2 args) (hK : va_K (dC, dI) vwCl [(cI, .int), (cJ, .long)] s) (hP : va_P (dC, dI) vwCl [(hI, .inr (1, [.int iop, .int ii, .int ij, .int ik, .int ic, .int ip, .int iu, .ref hN, .ref hR])), (hG, .inr (4, [.ref g1])), (g1, .inl (cJ, 24, .inr (.inl gv)))] s.heap) (hi : R8 ii) (hj : R8 ij) (hk : R8 ik) {V : Int32} (hV : (F_X2_target iop ii ic gv ) = V) (ls : Array Slot) (hl : lv_has ls 2 [(0, .ref hI), (1, .ref hG)]) : W p l e rm_X2_target s m args below meth c s.heap [] 0 0 (MQ below (vp_Si (fun r => r = V)) args s 0 0 (fun _ => False)) (F0 m 0 ls []) := by
  obtain ⟨hx, hb, hr, hlk, hml, hown, hts⟩ := id C0
  refine lv_aload_n hx hb dX2_target_0 rfl (lv_at hl 0 rfl) ?_
  refine roVi (As := []) (rest := []) (bytes := cX1_op) (maxL := 1) (rty := (some .int)) (n := 0) (ci := 1) C0 (c_X1_op l dC dI cI cJ hI hN hR iop ii ij ik ic ip iu) ⟨rfl, rfl, rfl, by decide +kernel, by decide, by decide⟩ ggX2_target_X1_op mm_X2_target_iX1 mm_X2_target_l9 mm_X2_target_nX1_op mm_X2_target_sX1_op rfl rfl (hP.sub (ws' := [(hI, .inr (1, [.int iop, .int ii, .int ij, .int ik, .int ic, .int ip, .int iu, .ref hN, .ref hR]))]) [0] rfl) hK hl.1 rfl rfl (Nat.le_of_ble_eq_true rfl) dX2_target_1 ⟨Nat.zero_le _, Nat.zero_le _⟩ ?_
  by_cases c1 : (F_X1_op iop) = (1 : Int32)
  · refine lv_lookup (off := 28) (tgt := 32) hx hb dX2_target_4 (by decide) (by rw [c1]; first | done | rfl) (by decide) ?_
    refine lv_aload_n hx hb dX2_target_32 rfl (lv_at hl 0 rfl) ?_
    refine roVi (As := []) (rest := []) (bytes := cX1_constant) (maxL := 1) (rty := (some .int)) (n := 0) (ci := 1) C0 (c_X1_constant l dC dI cI cJ hI hN hR iop ii ij ik ic ip iu) ⟨rfl, rfl, rfl, by decide +kernel, by decide, by decide⟩ ggX2_target_X1_constant mm_X2_target_iX1 mm_X2_target_l40 mm_X2_target_nX1_constant mm_X2_target_sX1_constant rfl rfl (hP.sub (ws' := [(hI, .inr (1, [.int iop, .int ii, .int ij, .int ik, .int ic, .int ip, .int iu, .ref hN, .ref hR]))]) [0] rfl) hK hl.1 rfl rfl (Nat.le_of_ble_eq_true rfl) dX2_target_33 ⟨Nat.zero_le _, Nat.zero_le _⟩ ?_
    refine lv_iconst (v := (1 : Int32)) hx hb dX2_target_36 (by decide) ?_
    refine lv_iadd hx hb dX2_target_37 ?_
    have e9 : (F_X2_target iop ii ic gv ) = ((F_X1_constant ic) + (1 : Int32)) := by rw [F_X2_target, if_pos c1]
    rw [e9] at hV
    subst hV
    exact roRetI C0 rfl dX2_target_38
  by_cases c2 : (F_X1_op iop) = (2 : Int32)
  · refine lv_lookup (off := 35) (tgt := 39) hx hb dX2_target_4 (by decide) (by rw [c2]; first | done | rfl) (by decide) ?_
    refine lv_aload_n hx hb dX2_target_39 rfl (lv_at hl 1 rfl) ?_
    refine lv_aload_n hx hb dX2_target_40 rfl (lv_at hl 0 rfl) ?_
    refine roVi (As := []) (rest := [.ref hG]) (bytes := cX1_i) (maxL := 1) (rty := (some .int)) (n := 0) (ci := 1) C0 (c_X1_i l dC dI cI cJ hI hN hR iop ii ij ik ic ip iu) ⟨rfl, rfl, rfl, by decide +kernel, by decide, by decide⟩ ggX2_target_X1_i mm_X2_target_iX1 mm_X2_target_l15 mm_X2_target_nX1_i mm_X2_target_sX1_i rfl rfl (hP.sub (ws' := [(hI, .inr (1, [.int iop, .int ii, .int ij, .int ik, .int ic, .int ip, .int iu, .ref hN, .ref hR]))]) [0] rfl) hK hl.1 rfl rfl (Nat.le_of_ble_eq_true rfl) dX2_target_41 ⟨Nat.zero_le _, Nat.zero_le _⟩ ?_
    refine roVl (As := [.int (F_X1_i ii)]) (rest := []) (bytes := cX6_b) (maxL := 2) (rty := (some .long)) (n := 1) (ci := 4) C0 (c_X6_b l dC dI cI cJ hG g1 (F_X1_i ii) gv (R8.b hi)) ⟨rfl, rfl, rfl, by decide +kernel, by decide, by decide⟩ ggX2_target_X6_b mm_X2_target_iX6 mm_X2_target_l33 mm_X2_target_nX6_b mm_X2_target_sX6_b rfl rfl (hP.sub (ws' := [(hG, .inr (4, [.ref g1])), (g1, .inl (cJ, 24, .inr (.inl gv)))]) [1, 2] rfl) hK hl.1 rfl rfl (Nat.le_of_ble_eq_true rfl) dX2_target_44 ⟨Nat.zero_le _, Nat.zero_le _⟩ ?_
    refine lv_aload_n hx hb dX2_target_47 rfl (lv_at hl 0 rfl) ?_
    refine roVi (As := []) (rest := [.long (F_X6_b (F_X1_i ii) gv)]) (bytes := cX1_constant) (maxL := 1) (rty := (some .int)) (n := 0) (ci := 1) C0 (c_X1_constant l dC dI cI cJ hI hN hR iop ii ij ik ic ip iu) ⟨rfl, rfl, rfl, by decide +kernel, by decide, by decide⟩ ggX2_target_X1_constant mm_X2_target_iX1 mm_X2_target_l40 mm_X2_target_nX1_constant mm_X2_target_sX1_constant rfl rfl (hP.sub (ws' := [(hI, .inr (1, [.int iop, .int ii, .int ij, .int ik, .int ic, .int ip, .int iu, .ref hN, .ref hR]))]) [0] rfl) hK hl.1 rfl rfl (Nat.le_of_ble_eq_true rfl) dX2_target_48 ⟨Nat.zero_le _, Nat.zero_le _⟩ ?_
    refine lv_i2l hx hb dX2_target_51 rfl ?_
    refine lv_ldc2 (v := (262143 : Int64)) hx hb hown (hts _ mm_X2_target_k43) dX2_target_52 ?_
    refine roSl (As := [.long (F_X6_b (F_X1_i ii) gv), .long (F_X1_constant ic).toInt64, .long (262143 : Int64)]) (rest := []) (bytes := cX4_sum) (maxL := 9) (rty := (some .long)) (n := 3) C0 (c_X4_sum l dC dI cI cJ (F_X6_b (F_X1_i ii) gv) ((F_X1_constant ic).toInt64) (262143 : Int64)) ⟨rfl, rfl, rfl, by decide +kernel, by decide, by decide⟩ ggX2_target_X4_sum mm_X2_target_iX4 mm_X2_target_l45 mm_X2_target_tX4_sum (hP.sub (ws' := []) [] rfl) hK hl.1 rfl rfl (Nat.le_of_ble_eq_true rfl) dX2_target_55 ⟨Nat.zero_le _, Nat.zero_le _⟩ ?_
    refine lv_l2i hx hb dX2_target_58 rfl ?_
    have e9 : (F_X2_target iop ii ic gv ) = (F_X4_sum (F_X6_b (F_X1_i ii) gv) ((F_X1_constant ic).toInt64) (262143 : Int64)).toInt32 := by rw [F_X2_target, if_neg c1, if_pos c2]
    rw [e9] at hV
    subst hV
    exact roRetI C0 rfl dX2_target_59
  refine lv_lookup (off := 56) (tgt := 60) hx hb dX2_target_4 (by decide) (by show Op.lookupswitch.offset [(1, 28), (2, 35)] _ _ = _; rw [lv_osw c1 (by decide), lv_osw c2 (by decide)]; first | done | rfl) (by decide) ?_
  refine lv_aload_n hx hb dX2_target_60 rfl (lv_at hl 0 rfl) ?_
  refine roVi (As := []) (rest := []) (bytes := cX1_constant) (maxL := 1) (rty := (some .int)) (n := 0) (ci := 1) C0 (c_X1_constant l dC dI cI cJ hI hN hR iop ii ij ik ic ip iu) ⟨rfl, rfl, rfl, by decide +kernel, by decide, by decide⟩ ggX2_target_X1_constant mm_X2_target_iX1 mm_X2_target_l40 mm_X2_target_nX1_constant mm_X2_target_sX1_constant rfl rfl (hP.sub (ws' := [(hI, .inr (1, [.int iop, .int ii, .int ij, .int ik, .int ic, .int ip, .int iu, .ref hN, .ref hR]))]) [0] rfl) hK hl.1 rfl rfl (Nat.le_of_ble_eq_true rfl) dX2_target_61 ⟨Nat.zero_le _, Nat.zero_le _⟩ ?_
  have e9 : (F_X2_target iop ii ic gv ) = (F_X1_constant ic) := by rw [F_X2_target, if_neg c1, if_neg c2]
  rw [e9] at hV
  subst hV
  exact roRetI C0 rfl dX2_target_64
theorem c_X2_target (l : Launch) (dC : Nat → ClassId) (dI : Nat → Nat → Nat) (cI cJ : ClassId) (hI hG g1 hN hR : Nat) (iop : Int32) (ii : Int32) (ij : Int32) (ik : Int32) (ic : Int32) (ip : Int32) (iu : Int32) (gv : Nat → Int64) (hi : R8 ii) (hj : R8 ij) (hk : R8 ik) : RoI l yX2_target wsX2_target rm_X2_target (dC, dI) [(cI, .int), (cJ, .long)] [(hI, .inr (1, [.int iop, .int ii, .int ij, .int ik, .int ic, .int ip, .int iu, .ref hN, .ref hR])), (hG, .inr (4, [.ref g1])), (g1, .inl (cJ, 24, .inr (.inl gv)))] [.ref hI, .ref hG] (F_X2_target iop ii ic gv ) := by
  refine RoI.mk (cc := cX2_target) (nL := 2) (ret := (some .int)) [(0, .ref hI), (1, .ref hG)] (by decide) rfl (Nat.le_of_ble_eq_true rfl) rfl ?_
  intro p e s m below meth c C0 hP hK ls hl
  exact w_X2_target dC dI cI cJ hI hG g1 hN hR iop ii ij ik ic ip iu gv C0 hK hP hi hj hk rfl ls hl
