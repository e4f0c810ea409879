-- X7_logic
def F_X7_logic (o : Int32) (a : Int64) (b : Int64) : Int64 :=
  (if o = (8 : Int32) then a else (if o = (9 : Int32) then (a &&& b) else (if o = (10 : Int32) then (a ||| b) else (if o = (11 : Int32) then (a ^^^ b) else (if o = (12 : Int32) then (b ^^^ (-1 : Int64)) else (if o = (13 : Int32) then (a &&& (b ^^^ (-1 : Int64))) else (if o = (14 : Int32) then (a ||| (b ^^^ (-1 : Int64))) else (a ^^^ (b ^^^ (-1 : Int64))))))))))
abbrev rm_X7_logic : Room := { frames := 0, cells := 0, slots := 0, locals := 0 }
set_option maxRecDepth 20000 in
theorem mm_X7_logic_k60 : Cond.constantLong RX7 60 (-1) ∈ wsX7_logic := by decide +kernel
set_option maxHeartbeats 4000000 in
set_option maxRecDepth 100000 in
theorem w_X7_logic {p : Program} {l : Launch} {e : Env} {s : State} {m : MethodId} {below : List Frame} {meth : Method} {c : Code} {args : Array Value} (dC : Nat → ClassId) (dI : Nat → Nat → Nat) (cI cJ : ClassId) (o : Int32) (a : Int64) (b : Int64) (C0 : Cx p s m meth c cX7_logic 5 (some .long) wsX7_logic RX7 args) (hK : va_K (dC, dI) vwCl [(cI, .int), (cJ, .long)] s) (hP : va_P (dC, dI) vwCl [] s.heap) {V : Int64} (hV : (F_X7_logic o a b ) = V) (ls : Array Slot) (hl : lv_has ls 5 [(0, .int o), (1, .long a), (3, .long b)]) : W p l e rm_X7_logic s m args below meth c s.heap [] 0 0 (MQ below (vp_Sl (fun r => r = V)) args s 0 0 (fun _ => False)) (F0 m 0 ls []) := by
  obtain ⟨hx, hb, hr, hlk, hml, hown, hts⟩ := id C0
  refine lv_iload_n hx hb dX7_logic_0 rfl (lv_at hl 0 rfl) ?_
  by_cases c1 : o = (8 : Int32)
  · refine lv_tableIn (tgt := 44) hx hb dX7_logic_1 (by rw [c1]; decide) (by rw [c1]; decide) (by rw [c1]; rfl) (by decide) ?_
    refine lv_lload_n hx hb dX7_logic_44 rfl (lv_at hl 1 rfl) ?_
    have e9 : (F_X7_logic o a b ) = a := by rw [F_X7_logic, if_pos c1]
    rw [e9] at hV
    subst hV
    exact roRetL C0 rfl dX7_logic_45
  by_cases c2 : o = (9 : Int32)
  · refine lv_tableIn (tgt := 46) hx hb dX7_logic_1 (by rw [c2]; decide) (by rw [c2]; decide) (by rw [c2]; rfl) (by decide) ?_
    refine lv_lload_n hx hb dX7_logic_46 rfl (lv_at hl 1 rfl) ?_
    refine lv_lload_n hx hb dX7_logic_47 rfl (lv_at hl 2 rfl) ?_
    refine lv_land hx hb dX7_logic_48 ?_
    have e9 : (F_X7_logic o a b ) = (a &&& b) := by rw [F_X7_logic, if_neg c1, if_pos c2]
    rw [e9] at hV
    subst hV
    exact roRetL C0 rfl dX7_logic_49
  by_cases c3 : o = (10 : Int32)
  · refine lv_tableIn (tgt := 50) hx hb dX7_logic_1 (by rw [c3]; decide) (by rw [c3]; decide) (by rw [c3]; rfl) (by decide) ?_
    refine lv_lload_n hx hb dX7_logic_50 rfl (lv_at hl 1 rfl) ?_
    refine lv_lload_n hx hb dX7_logic_51 rfl (lv_at hl 2 rfl) ?_
    refine lv_lor hx hb dX7_logic_52 ?_
    have e9 : (F_X7_logic o a b ) = (a ||| b) := by rw [F_X7_logic, if_neg c1, if_neg c2, if_pos c3]
    rw [e9] at hV
    subst hV
    exact roRetL C0 rfl dX7_logic_53
  by_cases c4 : o = (11 : Int32)
  · refine lv_tableIn (tgt := 54) hx hb dX7_logic_1 (by rw [c4]; decide) (by rw [c4]; decide) (by rw [c4]; rfl) (by decide) ?_
    refine lv_lload_n hx hb dX7_logic_54 rfl (lv_at hl 1 rfl) ?_
    refine lv_lload_n hx hb dX7_logic_55 rfl (lv_at hl 2 rfl) ?_
    refine lv_lxor hx hb dX7_logic_56 ?_
    have e9 : (F_X7_logic o a b ) = (a ^^^ b) := by rw [F_X7_logic, if_neg c1, if_neg c2, if_neg c3, if_pos c4]
    rw [e9] at hV
    subst hV
    exact roRetL C0 rfl dX7_logic_57
  by_cases c5 : o = (12 : Int32)
  · refine lv_tableIn (tgt := 58) hx hb dX7_logic_1 (by rw [c5]; decide) (by rw [c5]; decide) (by rw [c5]; rfl) (by decide) ?_
    refine lv_lload_n hx hb dX7_logic_58 rfl (lv_at hl 2 rfl) ?_
    refine lv_ldc2 (v := (-1 : Int64)) hx hb hown (hts _ mm_X7_logic_k60) dX7_logic_59 ?_
    refine lv_lxor hx hb dX7_logic_62 ?_
    have e9 : (F_X7_logic o a b ) = (b ^^^ (-1 : Int64)) := by rw [F_X7_logic, if_neg c1, if_neg c2, if_neg c3, if_neg c4, if_pos c5]
    rw [e9] at hV
    subst hV
    exact roRetL C0 rfl dX7_logic_63
  by_cases c6 : o = (13 : Int32)
  · refine lv_tableIn (tgt := 64) hx hb dX7_logic_1 (by rw [c6]; decide) (by rw [c6]; decide) (by rw [c6]; rfl) (by decide) ?_
    refine lv_lload_n hx hb dX7_logic_64 rfl (lv_at hl 1 rfl) ?_
    refine lv_lload_n hx hb dX7_logic_65 rfl (lv_at hl 2 rfl) ?_
    refine lv_ldc2 (v := (-1 : Int64)) hx hb hown (hts _ mm_X7_logic_k60) dX7_logic_66 ?_
    refine lv_lxor hx hb dX7_logic_69 ?_
    refine lv_land hx hb dX7_logic_70 ?_
    have e9 : (F_X7_logic o a b ) = (a &&& (b ^^^ (-1 : Int64))) := by rw [F_X7_logic, if_neg c1, if_neg c2, if_neg c3, if_neg c4, if_neg c5, if_pos c6]
    rw [e9] at hV
    subst hV
    exact roRetL C0 rfl dX7_logic_71
  by_cases c7 : o = (14 : Int32)
  · refine lv_tableIn (tgt := 72) hx hb dX7_logic_1 (by rw [c7]; decide) (by rw [c7]; decide) (by rw [c7]; rfl) (by decide) ?_
    refine lv_lload_n hx hb dX7_logic_72 rfl (lv_at hl 1 rfl) ?_
    refine lv_lload_n hx hb dX7_logic_73 rfl (lv_at hl 2 rfl) ?_
    refine lv_ldc2 (v := (-1 : Int64)) hx hb hown (hts _ mm_X7_logic_k60) dX7_logic_74 ?_
    refine lv_lxor hx hb dX7_logic_77 ?_
    refine lv_lor hx hb dX7_logic_78 ?_
    have e9 : (F_X7_logic o a b ) = (a ||| (b ^^^ (-1 : Int64))) := by rw [F_X7_logic, if_neg c1, if_neg c2, if_neg c3, if_neg c4, if_neg c5, if_neg c6, if_pos c7]
    rw [e9] at hV
    subst hV
    exact roRetL C0 rfl dX7_logic_79
  refine lv_tableOut (tgt := 80) hx hb dX7_logic_1 (by have q8 := lv_neT (a := 8) c1 (by decide); have q9 := lv_neT (a := 9) c2 (by decide); have q10 := lv_neT (a := 10) c3 (by decide); have q11 := lv_neT (a := 11) c4 (by decide); have q12 := lv_neT (a := 12) c5 (by decide); have q13 := lv_neT (a := 13) c6 (by decide); have q14 := lv_neT (a := 14) c7 (by decide); omega) (by decide) ?_
  refine lv_lload_n hx hb dX7_logic_80 rfl (lv_at hl 1 rfl) ?_
  refine lv_lload_n hx hb dX7_logic_81 rfl (lv_at hl 2 rfl) ?_
  refine lv_ldc2 (v := (-1 : Int64)) hx hb hown (hts _ mm_X7_logic_k60) dX7_logic_82 ?_
  refine lv_lxor hx hb dX7_logic_85 ?_
  refine lv_lxor hx hb dX7_logic_86 ?_
  have e9 : (F_X7_logic o a b ) = (a ^^^ (b ^^^ (-1 : Int64))) := by rw [F_X7_logic, if_neg c1, if_neg c2, if_neg c3, if_neg c4, if_neg c5, if_neg c6, if_neg c7]
  rw [e9] at hV
  subst hV
  exact roRetL C0 rfl dX7_logic_87
theorem c_X7_logic (l : Launch) (dC : Nat → ClassId) (dI : Nat → Nat → Nat) (cI cJ : ClassId) (o : Int32) (a : Int64) (b : Int64) : RoL l yX7_logic wsX7_logic rm_X7_logic (dC, dI) [(cI, .int), (cJ, .long)] [] [.int o, .long a, .long b] (F_X7_logic o a b ) := by
  refine RoL.mk (cc := cX7_logic) (nL := 5) (ret := (some .long)) [(0, .int o), (1, .long a), (3, .long b)] (by decide) rfl (Nat.le_of_ble_eq_true rfl) rfl ?_
  intro p e s m below meth c C0 hP hK ls hl
  exact w_X7_logic dC dI cI cJ o a b C0 hK hP rfl ls hl

-- X7_shiftBy
def F_X7_shiftBy_20 (v0 : Int64) (v4 : Int32) (v5 : Int32) (t0 : Int64) : Int64 :=
  (if v4 = v5 then (F_X4_shiftedRight v0 (t0.toInt32 &&& (63 : Int32))) else (F_X4_turnedRoundLeft v0 (t0.toInt32 &&& (63 : Int32))))
def F_X7_shiftBy (a : Int64) (b : Int64) (le : Int32) : Int64 :=
  (if (F_X4_isShortNegative b) = 0 then (F_X7_shiftBy_20 a le (F_X4_isShortNegative b) b) else (F_X7_shiftBy_20 a le (F_X4_isShortNegative b) (b ^^^ (-1 : Int64))))
abbrev rm_X7_shiftBy : Room := { frames := 2, cells := 0, slots := 0, locals := 45 }
set_option maxRecDepth 20000 in
theorem mm_X7_shiftBy_iX4 : Cond.initialized RX4 ∈ wsX7_shiftBy := by decide +kernel
set_option maxRecDepth 20000 in
theorem mm_X7_shiftBy_k60 : Cond.constantLong RX7 60 (-1) ∈ wsX7_shiftBy := by decide +kernel
set_option maxRecDepth 20000 in
theorem mm_X7_shiftBy_l65 : Cond.methodLink RX7 65 yX4_turnedRoundLeft ∈ wsX7_shiftBy := by decide +kernel
set_option maxRecDepth 20000 in
theorem mm_X7_shiftBy_l71 : Cond.methodLink RX7 71 yX4_shiftedRight ∈ wsX7_shiftBy := by decide +kernel
set_option maxRecDepth 20000 in
theorem mm_X7_shiftBy_l84 : Cond.methodLink RX7 84 yX4_isShortNegative ∈ wsX7_shiftBy := by decide +kernel
set_option maxRecDepth 20000 in
theorem mm_X7_shiftBy_tX4_isShortNegative : Cond.static yX4_isShortNegative ∈ wsX7_shiftBy := by decide +kernel
set_option maxRecDepth 20000 in
theorem mm_X7_shiftBy_tX4_shiftedRight : Cond.static yX4_shiftedRight ∈ wsX7_shiftBy := by decide +kernel
set_option maxRecDepth 20000 in
theorem mm_X7_shiftBy_tX4_turnedRoundLeft : Cond.static yX4_turnedRoundLeft ∈ wsX7_shiftBy := by decide +kernel
set_option maxHeartbeats 4000000 in
set_option maxRecDepth 100000 in
theorem j_X7_shiftBy_20 {p : Program} {l : Launch} {e : Env} {s : State} {m : MethodId} {below : List Frame} {meth : Method} {c : Code} {args : Array Value} (dC : Nat → ClassId) (dI : Nat → Nat → Nat) (cI cJ : ClassId) (a : Int64) (b : Int64) (le : Int32) (C0 : Cx p s m meth c cX7_shiftBy 7 (some .long) wsX7_shiftBy RX7 args) (hK : va_K (dC, dI) vwCl [(cI, .int), (cJ, .long)] s) (hP : va_P (dC, dI) vwCl [] s.heap) (v0 : Int64) (v4 : Int32) (v5 : Int32) (t0 : Int64) {V : Int64} (hV : (F_X7_shiftBy_20 v0 v4 v5 t0) = V) (ls : Array Slot) (hl : lv_has ls 7 [(0, .long v0), (4, .int v4), (5, .int v5)]) : W p l e rm_X7_shiftBy s m args below meth c s.heap [] 0 0 (MQ below (vp_Sl (fun r => r = V)) args s 0 0 (fun _ => False)) (F0 m 20 ls [.long t0]) := by
  obtain ⟨hx, hb, hr, hlk, hml, hown, hts⟩ := id C0
  refine lv_l2i hx hb dX7_shiftBy_20 rfl ?_
  refine lv_bipush (v := (63 : Int32)) hx hb dX7_shiftBy_21 (by decide) ?_
  refine lv_iand hx hb dX7_shiftBy_23 ?_
  refine lv_istore (lv' := [(6, .int (t0.toInt32 &&& (63 : Int32))), (0, .long v0), (4, .int v4), (5, .int v5)]) hx hb dX7_shiftBy_24 hl (by decide) rfl (fun ls hl => ?_)
  refine lv_iload hx hb dX7_shiftBy_26 (lv_at hl 2 rfl) ?_
  refine lv_iload hx hb dX7_shiftBy_28 (lv_at hl 3 rfl) ?_
  refine lv_icmp_eq (x := v4) (y := v5) (tgt := 42) hx hb dX7_shiftBy_30 (by decide) (fun c1 => ?_) (fun c1 => ?_)
  · refine lv_lload_n hx hb dX7_shiftBy_42 rfl (lv_at hl 1 rfl) ?_
    refine lv_iload hx hb dX7_shiftBy_43 (lv_at hl 0 rfl) ?_
    refine roSl (As := [.long v0, .int (t0.toInt32 &&& (63 : Int32))]) (rest := []) (bytes := cX4_shiftedRight) (maxL := 5) (rty := (some .long)) (n := 2) C0 (c_X4_shiftedRight l dC dI cI cJ v0 (t0.toInt32 &&& (63 : Int32))) ⟨rfl, rfl, rfl, by decide +kernel, by decide, by decide⟩ ggX7_shiftBy_X4_shiftedRight mm_X7_shiftBy_iX4 mm_X7_shiftBy_l71 mm_X7_shiftBy_tX4_shiftedRight (hP.sub (ws' := []) [] rfl) hK hl.1 rfl rfl (Nat.le_of_ble_eq_true rfl) dX7_shiftBy_45 ⟨Nat.zero_le _, Nat.zero_le _⟩ ?_
    have e9 : (F_X7_shiftBy_20 v0 v4 v5 t0) = (F_X4_shiftedRight v0 (t0.toInt32 &&& (63 : Int32))) := by rw [F_X7_shiftBy_20, if_pos c1]
    rw [e9] at hV
    subst hV
    exact roRetL C0 rfl dX7_shiftBy_48
  · refine lv_lload_n hx hb dX7_shiftBy_33 rfl (lv_at hl 1 rfl) ?_
    refine lv_iload hx hb dX7_shiftBy_34 (lv_at hl 0 rfl) ?_
    refine roSl (As := [.long v0, .int (t0.toInt32 &&& (63 : Int32))]) (rest := []) (bytes := cX4_turnedRoundLeft) (maxL := 4) (rty := (some .long)) (n := 2) C0 (c_X4_turnedRoundLeft l dC dI cI cJ v0 (t0.toInt32 &&& (63 : Int32))) ⟨rfl, rfl, rfl, by decide +kernel, by decide, by decide⟩ ggX7_shiftBy_X4_turnedRoundLeft mm_X7_shiftBy_iX4 mm_X7_shiftBy_l65 mm_X7_shiftBy_tX4_turnedRoundLeft (hP.sub (ws' := []) [] rfl) hK hl.1 rfl rfl (Nat.le_of_ble_eq_true rfl) dX7_shiftBy_36 ⟨Nat.zero_le _, Nat.zero_le _⟩ ?_
    refine lv_goto (tgt := 48) hx hb dX7_shiftBy_39 (by decide) ?_
    have e9 : (F_X7_shiftBy_20 v0 v4 v5 t0) = (F_X4_turnedRoundLeft v0 (t0.toInt32 &&& (63 : Int32))) := by rw [F_X7_shiftBy_20, if_neg c1]
    rw [e9] at hV
    subst hV
    exact roRetL C0 rfl dX7_shiftBy_48
set_option maxHeartbeats 4000000 in
set_option maxRecDepth 100000 in
theorem w_X7_shiftBy {p : Program} {l : Launch} {e : Env} {s : State} {m : MethodId} {below : List Frame} {meth : Method} {c : Code} {args : Array Value} (dC : Nat → ClassId) (dI : Nat → Nat → Nat) (cI cJ : ClassId) (a : Int64) (b : Int64) (le : Int32) (C0 : Cx p s m meth c cX7_shiftBy 7 (some .long) wsX7_shiftBy RX7 args) (hK : va_K (dC, dI) vwCl [(cI, .int), (cJ, .long)] s) (hP : va_P (dC, dI) vwCl [] s.heap) {V : Int64} (hV : (F_X7_shiftBy a b le ) = V) (ls : Array Slot) (hl : lv_has ls 7 [(0, .long a), (2, .long b), (4, .int le)]) : W p l e rm_X7_shiftBy s m args below meth c s.heap [] 0 0 (MQ below (vp_Sl (fun r => r = V)) args s 0 0 (fun _ => False)) (F0 m 0 ls []) := by
  obtain ⟨hx, hb, hr, hlk, hml, hown, hts⟩ := id C0
  refine lv_lload_n hx hb dX7_shiftBy_0 rfl (lv_at hl 1 rfl) ?_
  refine roSi (As := [.long b]) (rest := []) (bytes := cX4_isShortNegative) (maxL := 2) (rty := (some .boolean)) (n := 1) C0 (c_X4_isShortNegative l dC dI cI cJ b) ⟨rfl, rfl, rfl, by decide +kernel, by decide, by decide⟩ ggX7_shiftBy_X4_isShortNegative mm_X7_shiftBy_iX4 mm_X7_shiftBy_l84 mm_X7_shiftBy_tX4_isShortNegative (hP.sub (ws' := []) [] rfl) hK hl.1 rfl rfl (Nat.le_of_ble_eq_true rfl) dX7_shiftBy_1 ⟨Nat.zero_le _, Nat.zero_le _⟩ ?_
  refine lv_istore (lv' := [(5, .int (F_X4_isShortNegative b)), (0, .long a), (2, .long b), (4, .int le)]) hx hb dX7_shiftBy_4 hl (by decide) rfl (fun ls hl => ?_)
  refine lv_iload hx hb dX7_shiftBy_6 (lv_at hl 0 rfl) ?_
  refine lv_if_eq (x := (F_X4_isShortNegative b)) (tgt := 19) hx hb dX7_shiftBy_8 (by decide) (fun c1 => ?_) (fun c1 => ?_)
  · refine lv_lload_n hx hb dX7_shiftBy_19 rfl (lv_at hl 2 rfl) ?_
    have e9 : (F_X7_shiftBy a b le ) = (F_X7_shiftBy_20 a le (F_X4_isShortNegative b) b) := by rw [F_X7_shiftBy, if_pos c1]
    rw [e9] at hV
    exact j_X7_shiftBy_20 dC dI cI cJ a b le C0 hK hP a le (F_X4_isShortNegative b) b hV ls (lv_sub hl [1, 3, 0] rfl)
  · refine lv_lload_n hx hb dX7_shiftBy_11 rfl (lv_at hl 2 rfl) ?_
    refine lv_ldc2 (v := (-1 : Int64)) hx hb hown (hts _ mm_X7_shiftBy_k60) dX7_shiftBy_12 ?_
    refine lv_lxor hx hb dX7_shiftBy_15 ?_
    refine lv_goto (tgt := 20) hx hb dX7_shiftBy_16 (by decide) ?_
    have e9 : (F_X7_shiftBy a b le ) = (F_X7_shiftBy_20 a le (F_X4_isShortNegative b) (b ^^^ (-1 : Int64))) := by rw [F_X7_shiftBy, if_neg c1]
    rw [e9] at hV
    exact j_X7_shiftBy_20 dC dI cI cJ a b le C0 hK hP a le (F_X4_isShortNegative b) (b ^^^ (-1 : Int64)) hV ls (lv_sub hl [1, 3, 0] rfl)
theorem c_X7_shiftBy (l : Launch) (dC : Nat → ClassId) (dI : Nat → Nat → Nat) (cI cJ : ClassId) (a : Int64) (b : Int64) (le : Int32) : RoL l yX7_shiftBy wsX7_shiftBy rm_X7_shiftBy (dC, dI) [(cI, .int), (cJ, .long)] [] [.long a, .long b, .int le] (F_X7_shiftBy a b le ) := by
  refine RoL.mk (cc := cX7_shiftBy) (nL := 7) (ret := (some .long)) [(0, .long a), (2, .long b), (4, .int le)] (by decide) rfl (Nat.le_of_ble_eq_true rfl) rfl ?_
  intro p e s m below meth c C0 hP hK ls hl
  exact w_X7_shiftBy dC dI cI cJ a b le C0 hK hP rfl ls hl

-- X7_wordSum
def F_X7_wordSum (o : Int32) (a : Int64) (b : Int64) : Int64 :=
  (if o = (30 : Int32) then (F_X4_sum a b (1152921504606846975 : Int64)) else (F_X4_difference a b (1152921504606846975 : Int64)))
abbrev rm_X7_wordSum : Room := { frames := 2, cells := 0, slots := 0, locals := 53 }
set_option maxRecDepth 20000 in
theorem mm_X7_wordSum_iX4 : Cond.initialized RX4 ∈ wsX7_wordSum := by decide +kernel
set_option maxRecDepth 20000 in
theorem mm_X7_wordSum_k88 : Cond.constantLong RX7 88 (1152921504606846975) ∈ wsX7_wordSum := by decide +kernel
set_option maxRecDepth 20000 in
theorem mm_X7_wordSum_l90 : Cond.methodLink RX7 90 yX4_sum ∈ wsX7_wordSum := by decide +kernel
set_option maxRecDepth 20000 in
theorem mm_X7_wordSum_l94 : Cond.methodLink RX7 94 yX4_difference ∈ wsX7_wordSum := by decide +kernel
set_option maxRecDepth 20000 in
theorem mm_X7_wordSum_tX4_difference : Cond.static yX4_difference ∈ wsX7_wordSum := by decide +kernel
set_option maxRecDepth 20000 in
theorem mm_X7_wordSum_tX4_sum : Cond.static yX4_sum ∈ wsX7_wordSum := by decide +kernel
set_option maxHeartbeats 4000000 in
set_option maxRecDepth 100000 in
theorem w_X7_wordSum {p : Program} {l : Launch} {e : Env} {s : State} {m : MethodId} {below : List Frame} {meth : Method} {c : Code} {args : Array Value} (dC : Nat → ClassId) (dI : Nat → Nat → Nat) (cI cJ : ClassId) (o : Int32) (a : Int64) (b : Int64) (C0 : Cx p s m meth c cX7_wordSum 5 (some .long) wsX7_wordSum RX7 args) (hK : va_K (dC, dI) vwCl [(cI, .int), (cJ, .long)] s) (hP : va_P (dC, dI) vwCl [] s.heap) {V : Int64} (hV : (F_X7_wordSum o a b ) = V) (ls : Array Slot) (hl : lv_has ls 5 [(0, .int o), (1, .long a), (3, .long b)]) : W p l e rm_X7_wordSum s m args below meth c s.heap [] 0 0 (MQ below (vp_Sl (fun r => r = V)) args s 0 0 (fun _ => False)) (F0 m 0 ls []) := by
  obtain ⟨hx, hb, hr, hlk, hml, hown, hts⟩ := id C0
  refine lv_iload_n hx hb dX7_wordSum_0 rfl (lv_at hl 0 rfl) ?_
  refine lv_bipush (v := (30 : Int32)) hx hb dX7_wordSum_1 (by decide) ?_
  refine lv_icmp_ne (x := o) (y := (30 : Int32)) (tgt := 17) hx hb dX7_wordSum_3 (by decide) (fun c1 => ?_) (fun c1 => ?_)
  · refine lv_lload_n hx hb dX7_wordSum_17 rfl (lv_at hl 1 rfl) ?_
    refine lv_lload_n hx hb dX7_wordSum_18 rfl (lv_at hl 2 rfl) ?_
    refine lv_ldc2 (v := (1152921504606846975 : Int64)) hx hb hown (hts _ mm_X7_wordSum_k88) dX7_wordSum_19 ?_
    refine roSl (As := [.long a, .long b, .long (1152921504606846975 : Int64)]) (rest := []) (bytes := cX4_difference) (maxL := 6) (rty := (some .long)) (n := 3) C0 (c_X4_difference l dC dI cI cJ a b (1152921504606846975 : Int64)) ⟨rfl, rfl, rfl, by decide +kernel, by decide, by decide⟩ ggX7_wordSum_X4_difference mm_X7_wordSum_iX4 mm_X7_wordSum_l94 mm_X7_wordSum_tX4_difference (hP.sub (ws' := []) [] rfl) hK hl.1 rfl rfl (Nat.le_of_ble_eq_true rfl) dX7_wordSum_22 ⟨Nat.zero_le _, Nat.zero_le _⟩ ?_
    have e9 : (F_X7_wordSum o a b ) = (F_X4_difference a b (1152921504606846975 : Int64)) := by rw [F_X7_wordSum, if_neg c1]
    rw [e9] at hV
    subst hV
    exact roRetL C0 rfl dX7_wordSum_25
  · refine lv_lload_n hx hb dX7_wordSum_6 rfl (lv_at hl 1 rfl) ?_
    refine lv_lload_n hx hb dX7_wordSum_7 rfl (lv_at hl 2 rfl) ?_
    refine lv_ldc2 (v := (1152921504606846975 : Int64)) hx hb hown (hts _ mm_X7_wordSum_k88) dX7_wordSum_8 ?_
    refine roSl (As := [.long a, .long b, .long (1152921504606846975 : Int64)]) (rest := []) (bytes := cX4_sum) (maxL := 9) (rty := (some .long)) (n := 3) C0 (c_X4_sum l dC dI cI cJ a b (1152921504606846975 : Int64)) ⟨rfl, rfl, rfl, by decide +kernel, by decide, by decide⟩ ggX7_wordSum_X4_sum mm_X7_wordSum_iX4 mm_X7_wordSum_l90 mm_X7_wordSum_tX4_sum (hP.sub (ws' := []) [] rfl) hK hl.1 rfl rfl (Nat.le_of_ble_eq_true rfl) dX7_wordSum_11 ⟨Nat.zero_le _, Nat.zero_le _⟩ ?_
    refine lv_goto (tgt := 25) hx hb dX7_wordSum_14 (by decide) ?_
    have e9 : (F_X7_wordSum o a b ) = (F_X4_sum a b (1152921504606846975 : Int64)) := by rw [F_X7_wordSum, if_pos c1]
    rw [e9] at hV
    subst hV
    exact roRetL C0 rfl dX7_wordSum_25
theorem c_X7_wordSum (l : Launch) (dC : Nat → ClassId) (dI : Nat → Nat → Nat) (cI cJ : ClassId) (o : Int32) (a : Int64) (b : Int64) : RoL l yX7_wordSum wsX7_wordSum rm_X7_wordSum (dC, dI) [(cI, .int), (cJ, .long)] [] [.int o, .long a, .long b] (F_X7_wordSum o a b ) := by
  refine RoL.mk (cc := cX7_wordSum) (nL := 5) (ret := (some .long)) [(0, .int o), (1, .long a), (3, .long b)] (by decide) rfl (Nat.le_of_ble_eq_true rfl) rfl ?_
  intro p e s m below meth c C0 hP hK ls hl
  exact w_X7_wordSum dC dI cI cJ o a b C0 hK hP rfl ls hl

-- X7_shift
def F_X7_shift (iop : Int32) (ii : Int32) (ij : Int32) (ik : Int32) (gv : Nat → Int64) : Int64 :=
  (if (F_X1_op iop) = (16 : Int32) then (F_X4_turnedRoundLeft (F_X6_x (F_X1_i ii) gv) (F_X1_jk ij ik)) else (if (F_X1_op iop) = (17 : Int32) then (F_X4_shiftedRight (F_X6_x (F_X1_i ii) gv) (F_X1_jk ij ik)) else (if (F_X1_op iop) = (18 : Int32) then (F_X7_shiftBy (F_X6_x (F_X1_k ik) gv) (F_X6_b (F_X1_j ij) gv) (1 : Int32)) else (if (F_X1_op iop) = (19 : Int32) then (F_X7_shiftBy (F_X6_x (F_X1_k ik) gv) (F_X6_b (F_X1_j ij) gv) (0 : Int32)) else (F_X4_highestBits (F_X1_jk ij ik))))))
abbrev rm_X7_shift : Room := { frames := 3, cells := 0, slots := 0, locals := 71 }
set_option maxRecDepth 20000 in
theorem mm_X7_shift_iX1 : Cond.initialized RX1 ∈ wsX7_shift := by decide +kernel
set_option maxRecDepth 20000 in
theorem mm_X7_shift_iX4 : Cond.initialized RX4 ∈ wsX7_shift := by decide +kernel
set_option maxRecDepth 20000 in
theorem mm_X7_shift_iX6 : Cond.initialized RX6 ∈ wsX7_shift := by decide +kernel
set_option maxRecDepth 20000 in
theorem mm_X7_shift_iX7 : Cond.initialized RX7 ∈ wsX7_shift := by decide +kernel
set_option maxRecDepth 20000 in
theorem mm_X7_shift_l15 : Cond.methodLink RX7 15 yX1_i ∈ wsX7_shift := by decide +kernel
set_option maxRecDepth 20000 in
theorem mm_X7_shift_l18 : Cond.methodLink RX7 18 yX1_op ∈ wsX7_shift := by decide +kernel
set_option maxRecDepth 20000 in
theorem mm_X7_shift_l21 : Cond.methodLink RX7 21 yX1_j ∈ wsX7_shift := by decide +kernel
set_option maxRecDepth 20000 in
theorem mm_X7_shift_l24 : Cond.methodLink RX7 24 yX6_x ∈ wsX7_shift := by decide +kernel
set_option maxRecDepth 20000 in
theorem mm_X7_shift_l30 : Cond.methodLink RX7 30 yX1_k ∈ wsX7_shift := by decide +kernel
set_option maxRecDepth 20000 in
theorem mm_X7_shift_l62 : Cond.methodLink RX7 62 yX1_jk ∈ wsX7_shift := by decide +kernel
set_option maxRecDepth 20000 in
theorem mm_X7_shift_l65 : Cond.methodLink RX7 65 yX4_turnedRoundLeft ∈ wsX7_shift := by decide +kernel
set_option maxRecDepth 20000 in
theorem mm_X7_shift_l71 : Cond.methodLink RX7 71 yX4_shiftedRight ∈ wsX7_shift := by decide +kernel
set_option maxRecDepth 20000 in
theorem mm_X7_shift_l74 : Cond.methodLink RX7 74 yX6_b ∈ wsX7_shift := by decide +kernel
set_option maxRecDepth 20000 in
theorem mm_X7_shift_l77 : Cond.methodLink RX7 77 yX7_shiftBy ∈ wsX7_shift := by decide +kernel
set_option maxRecDepth 20000 in
theorem mm_X7_shift_l81 : Cond.methodLink RX7 81 yX4_highestBits ∈ wsX7_shift := by decide +kernel
set_option maxRecDepth 20000 in
theorem mm_X7_shift_nX1_i : Cond.instanceMethod yX1_i ∈ wsX7_shift := by decide +kernel
set_option maxRecDepth 20000 in
theorem mm_X7_shift_nX1_j : Cond.instanceMethod yX1_j ∈ wsX7_shift := by decide +kernel
set_option maxRecDepth 20000 in
theorem mm_X7_shift_nX1_jk : Cond.instanceMethod yX1_jk ∈ wsX7_shift := by decide +kernel
set_option maxRecDepth 20000 in
theorem mm_X7_shift_nX1_k : Cond.instanceMethod yX1_k ∈ wsX7_shift := by decide +kernel
set_option maxRecDepth 20000 in
theorem mm_X7_shift_nX1_op : Cond.instanceMethod yX1_op ∈ wsX7_shift := by decide +kernel
set_option maxRecDepth 20000 in
theorem mm_X7_shift_nX6_b : Cond.instanceMethod yX6_b ∈ wsX7_shift := by decide +kernel
set_option maxRecDepth 20000 in
theorem mm_X7_shift_nX6_x : Cond.instanceMethod yX6_x ∈ wsX7_shift := by decide +kernel
set_option maxRecDepth 20000 in
theorem mm_X7_shift_sX1_i : Cond.selects RX1 yX1_i yX1_i ∈ wsX7_shift := by decide +kernel
set_option maxRecDepth 20000 in
theorem mm_X7_shift_sX1_j : Cond.selects RX1 yX1_j yX1_j ∈ wsX7_shift := by decide +kernel
set_option maxRecDepth 20000 in
theorem mm_X7_shift_sX1_jk : Cond.selects RX1 yX1_jk yX1_jk ∈ wsX7_shift := by decide +kernel
set_option maxRecDepth 20000 in
theorem mm_X7_shift_sX1_k : Cond.selects RX1 yX1_k yX1_k ∈ wsX7_shift := by decide +kernel
set_option maxRecDepth 20000 in
theorem mm_X7_shift_sX1_op : Cond.selects RX1 yX1_op yX1_op ∈ wsX7_shift := by decide +kernel
set_option maxRecDepth 20000 in
theorem mm_X7_shift_sX6_b : Cond.selects RX6 yX6_b yX6_b ∈ wsX7_shift := by decide +kernel
set_option maxRecDepth 20000 in
theorem mm_X7_shift_sX6_x : Cond.selects RX6 yX6_x yX6_x ∈ wsX7_shift := by decide +kernel
set_option maxRecDepth 20000 in
theorem mm_X7_shift_tX4_highestBits : Cond.static yX4_highestBits ∈ wsX7_shift := by decide +kernel
set_option maxRecDepth 20000 in
theorem mm_X7_shift_tX4_shiftedRight : Cond.static yX4_shiftedRight ∈ wsX7_shift := by decide +kernel
set_option maxRecDepth 20000 in
theorem mm_X7_shift_tX4_turnedRoundLeft : Cond.static yX4_turnedRoundLeft ∈ wsX7_shift := by decide +kernel
set_option maxRecDepth 20000 in
theorem mm_X7_shift_tX7_shiftBy : Cond.static yX7_shiftBy ∈ wsX7_shift := by decide +kernel
set_option maxHeartbeats 4000000 in
set_option maxRecDepth 100000 in
theorem w_X7_shift {p : Program} {l : Launch} {e : Env} {s : State} {m : MethodId} {below : List Frame} {meth : Method} {c : Code} {args : Array Value} (dC : Nat → ClassId) (dI : Nat → Nat → Nat) (cI cJ : ClassId) (hI hG g1 hN hR : Nat) (iop : Int32) (ii : Int32) (ij : Int32) (ik : Int32) (ic : Int32) (ip : Int32) (iu : Int32) (gv : Nat → Int64) (C0 : Cx p s m meth c cX7_shift 2 (some .long) wsX7_shift RX7 args) (hK : va_K (dC, dI) vwCl [(cI, .int), (cJ, .long)] s) (hP : va_P (dC, dI) vwCl [(hI, .inr (1, [.int iop, .int ii, .int ij, .int ik, .int ic, .int ip, .int iu, .ref hN, .ref hR])), (hG, .inr (4, [.ref g1])), (g1, .inl (cJ, 24, .inr (.inl gv)))] s.heap) (hi : R8 ii) (hj : R8 ij) (hk : R8 ik) {V : Int64} (hV : (F_X7_shift iop ii ij ik gv ) = V) (ls : Array Slot) (hl : lv_has ls 2 [(0, .ref hI), (1, .ref hG)]) : W p l e rm_X7_shift s m args below meth c s.heap [] 0 0 (MQ below (vp_Sl (fun r => r = V)) args s 0 0 (fun _ => False)) (F0 m 0 ls []) := by
  obtain ⟨hx, hb, hr, hlk, hml, hown, hts⟩ := id C0
  refine lv_aload_n hx hb dX7_shift_0 rfl (lv_at hl 0 rfl) ?_
  refine roVi (As := []) (rest := []) (bytes := cX1_op) (maxL := 1) (rty := (some .int)) (n := 0) (ci := 1) C0 (c_X1_op l dC dI cI cJ hI hN hR iop ii ij ik ic ip iu) ⟨rfl, rfl, rfl, by decide +kernel, by decide, by decide⟩ ggX7_shift_X1_op mm_X7_shift_iX1 mm_X7_shift_l18 mm_X7_shift_nX1_op mm_X7_shift_sX1_op rfl rfl (hP.sub (ws' := [(hI, .inr (1, [.int iop, .int ii, .int ij, .int ik, .int ic, .int ip, .int iu, .ref hN, .ref hR]))]) [0] rfl) hK hl.1 rfl rfl (Nat.le_of_ble_eq_true rfl) dX7_shift_1 ⟨Nat.zero_le _, Nat.zero_le _⟩ ?_
  by_cases c1 : (F_X1_op iop) = (16 : Int32)
  · refine lv_tableIn (tgt := 36) hx hb dX7_shift_4 (by rw [c1]; decide) (by rw [c1]; decide) (by rw [c1]; rfl) (by decide) ?_
    refine lv_aload_n hx hb dX7_shift_36 rfl (lv_at hl 1 rfl) ?_
    refine lv_aload_n hx hb dX7_shift_37 rfl (lv_at hl 0 rfl) ?_
    refine roVi (As := []) (rest := [.ref hG]) (bytes := cX1_i) (maxL := 1) (rty := (some .int)) (n := 0) (ci := 1) C0 (c_X1_i l dC dI cI cJ hI hN hR iop ii ij ik ic ip iu) ⟨rfl, rfl, rfl, by decide +kernel, by decide, by decide⟩ ggX7_shift_X1_i mm_X7_shift_iX1 mm_X7_shift_l15 mm_X7_shift_nX1_i mm_X7_shift_sX1_i rfl rfl (hP.sub (ws' := [(hI, .inr (1, [.int iop, .int ii, .int ij, .int ik, .int ic, .int ip, .int iu, .ref hN, .ref hR]))]) [0] rfl) hK hl.1 rfl rfl (Nat.le_of_ble_eq_true rfl) dX7_shift_38 ⟨Nat.zero_le _, Nat.zero_le _⟩ ?_
    refine roVl (As := [.int (F_X1_i ii)]) (rest := []) (bytes := cX6_x) (maxL := 2) (rty := (some .long)) (n := 1) (ci := 4) C0 (c_X6_x l dC dI cI cJ hG g1 (F_X1_i ii) gv (by first | exact R8.x hi | exact R8.x hj | exact R8.x hk | exact R8.b hi | exact R8.b hj | exact R8.b hk | exact R8.a hi | exact R8.a hj | exact R8.a hk)) ⟨rfl, rfl, rfl, by decide +kernel, by decide, by decide⟩ ggX7_shift_X6_x mm_X7_shift_iX6 mm_X7_shift_l24 mm_X7_shift_nX6_x mm_X7_shift_sX6_x rfl rfl (hP.sub (ws' := [(hG, .inr (4, [.ref g1])), (g1, .inl (cJ, 24, .inr (.inl gv)))]) [1, 2] rfl) hK hl.1 rfl rfl (Nat.le_of_ble_eq_true rfl) dX7_shift_41 ⟨Nat.zero_le _, Nat.zero_le _⟩ ?_
    refine lv_aload_n hx hb dX7_shift_44 rfl (lv_at hl 0 rfl) ?_
    refine roVi (As := []) (rest := [.long (F_X6_x (F_X1_i ii) gv)]) (bytes := cX1_jk) (maxL := 1) (rty := (some .int)) (n := 0) (ci := 1) C0 (c_X1_jk l dC dI cI cJ hI hN hR iop ii ij ik ic ip iu) ⟨rfl, rfl, rfl, by decide +kernel, by decide, by decide⟩ ggX7_shift_X1_jk mm_X7_shift_iX1 mm_X7_shift_l62 mm_X7_shift_nX1_jk mm_X7_shift_sX1_jk rfl rfl (hP.sub (ws' := [(hI, .inr (1, [.int iop, .int ii, .int ij, .int ik, .int ic, .int ip, .int iu, .ref hN, .ref hR]))]) [0] rfl) hK hl.1 rfl rfl (Nat.le_of_ble_eq_true rfl) dX7_shift_45 ⟨Nat.zero_le _, Nat.zero_le _⟩ ?_
    refine roSl (As := [.long (F_X6_x (F_X1_i ii) gv), .int (F_X1_jk ij ik)]) (rest := []) (bytes := cX4_turnedRoundLeft) (maxL := 4) (rty := (some .long)) (n := 2) C0 (c_X4_turnedRoundLeft l dC dI cI cJ (F_X6_x (F_X1_i ii) gv) (F_X1_jk ij ik)) ⟨rfl, rfl, rfl, by decide +kernel, by decide, by decide⟩ ggX7_shift_X4_turnedRoundLeft mm_X7_shift_iX4 mm_X7_shift_l65 mm_X7_shift_tX4_turnedRoundLeft (hP.sub (ws' := []) [] rfl) hK hl.1 rfl rfl (Nat.le_of_ble_eq_true rfl) dX7_shift_48 ⟨Nat.zero_le _, Nat.zero_le _⟩ ?_
    have e9 : (F_X7_shift iop ii ij ik gv ) = (F_X4_turnedRoundLeft (F_X6_x (F_X1_i ii) gv) (F_X1_jk ij ik)) := by rw [F_X7_shift, if_pos c1]
    rw [e9] at hV
    subst hV
    exact roRetL C0 rfl dX7_shift_51
  by_cases c2 : (F_X1_op iop) = (17 : Int32)
  · refine lv_tableIn (tgt := 52) hx hb dX7_shift_4 (by rw [c2]; decide) (by rw [c2]; decide) (by rw [c2]; rfl) (by decide) ?_
    refine lv_aload_n hx hb dX7_shift_52 rfl (lv_at hl 1 rfl) ?_
    refine lv_aload_n hx hb dX7_shift_53 rfl (lv_at hl 0 rfl) ?_
    refine roVi (As := []) (rest := [.ref hG]) (bytes := cX1_i) (maxL := 1) (rty := (some .int)) (n := 0) (ci := 1) C0 (c_X1_i l dC dI cI cJ hI hN hR iop ii ij ik ic ip iu) ⟨rfl, rfl, rfl, by decide +kernel, by decide, by decide⟩ ggX7_shift_X1_i mm_X7_shift_iX1 mm_X7_shift_l15 mm_X7_shift_nX1_i mm_X7_shift_sX1_i rfl rfl (hP.sub (ws' := [(hI, .inr (1, [.int iop, .int ii, .int ij, .int ik, .int ic, .int ip, .int iu, .ref hN, .ref hR]))]) [0] rfl) hK hl.1 rfl rfl (Nat.le_of_ble_eq_true rfl) dX7_shift_54 ⟨Nat.zero_le _, Nat.zero_le _⟩ ?_
    refine roVl (As := [.int (F_X1_i ii)]) (rest := []) (bytes := cX6_x) (maxL := 2) (rty := (some .long)) (n := 1) (ci := 4) C0 (c_X6_x l dC dI cI cJ hG g1 (F_X1_i ii) gv (by first | exact R8.x hi | exact R8.x hj | exact R8.x hk | exact R8.b hi | exact R8.b hj | exact R8.b hk | exact R8.a hi | exact R8.a hj | exact R8.a hk)) ⟨rfl, rfl, rfl, by decide +kernel, by decide, by decide⟩ ggX7_shift_X6_x mm_X7_shift_iX6 mm_X7_shift_l24 mm_X7_shift_nX6_x mm_X7_shift_sX6_x rfl rfl (hP.sub (ws' := [(hG, .inr (4, [.ref g1])), (g1, .inl (cJ, 24, .inr (.inl gv)))]) [1, 2] rfl) hK hl.1 rfl rfl (Nat.le_of_ble_eq_true rfl) dX7_shift_57 ⟨Nat.zero_le _, Nat.zero_le _⟩ ?_
    refine lv_aload_n hx hb dX7_shift_60 rfl (lv_at hl 0 rfl) ?_
    refine roVi (As := []) (rest := [.long (F_X6_x (F_X1_i ii) gv)]) (bytes := cX1_jk) (maxL := 1) (rty := (some .int)) (n := 0) (ci := 1) C0 (c_X1_jk l dC dI cI cJ hI hN hR iop ii ij ik ic ip iu) ⟨rfl, rfl, rfl, by decide +kernel, by decide, by decide⟩ ggX7_shift_X1_jk mm_X7_shift_iX1 mm_X7_shift_l62 mm_X7_shift_nX1_jk mm_X7_shift_sX1_jk rfl rfl (hP.sub (ws' := [(hI, .inr (1, [.int iop, .int ii, .int ij, .int ik, .int ic, .int ip, .int iu, .ref hN, .ref hR]))]) [0] rfl) hK hl.1 rfl rfl (Nat.le_of_ble_eq_true rfl) dX7_shift_61 ⟨Nat.zero_le _, Nat.zero_le _⟩ ?_
    refine roSl (As := [.long (F_X6_x (F_X1_i ii) gv), .int (F_X1_jk ij ik)]) (rest := []) (bytes := cX4_shiftedRight) (maxL := 5) (rty := (some .long)) (n := 2) C0 (c_X4_shiftedRight l dC dI cI cJ (F_X6_x (F_X1_i ii) gv) (F_X1_jk ij ik)) ⟨rfl, rfl, rfl, by decide +kernel, by decide, by decide⟩ ggX7_shift_X4_shiftedRight mm_X7_shift_iX4 mm_X7_shift_l71 mm_X7_shift_tX4_shiftedRight (hP.sub (ws' := []) [] rfl) hK hl.1 rfl rfl (Nat.le_of_ble_eq_true rfl) dX7_shift_64 ⟨Nat.zero_le _, Nat.zero_le _⟩ ?_
    have e9 : (F_X7_shift iop ii ij ik gv ) = (F_X4_shiftedRight (F_X6_x (F_X1_i ii) gv) (F_X1_jk ij ik)) := by rw [F_X7_shift, if_neg c1, if_pos c2]
    rw [e9] at hV
    subst hV
    exact roRetL C0 rfl dX7_shift_67
  by_cases c3 : (F_X1_op iop) = (18 : Int32)
  · refine lv_tableIn (tgt := 68) hx hb dX7_shift_4 (by rw [c3]; decide) (by rw [c3]; decide) (by rw [c3]; rfl) (by decide) ?_
    refine lv_aload_n hx hb dX7_shift_68 rfl (lv_at hl 1 rfl) ?_
    refine lv_aload_n hx hb dX7_shift_69 rfl (lv_at hl 0 rfl) ?_
    refine roVi (As := []) (rest := [.ref hG]) (bytes := cX1_k) (maxL := 1) (rty := (some .int)) (n := 0) (ci := 1) C0 (c_X1_k l dC dI cI cJ hI hN hR iop ii ij ik ic ip iu) ⟨rfl, rfl, rfl, by decide +kernel, by decide, by decide⟩ ggX7_shift_X1_k mm_X7_shift_iX1 mm_X7_shift_l30 mm_X7_shift_nX1_k mm_X7_shift_sX1_k rfl rfl (hP.sub (ws' := [(hI, .inr (1, [.int iop, .int ii, .int ij, .int ik, .int ic, .int ip, .int iu, .ref hN, .ref hR]))]) [0] rfl) hK hl.1 rfl rfl (Nat.le_of_ble_eq_true rfl) dX7_shift_70 ⟨Nat.zero_le _, Nat.zero_le _⟩ ?_
    refine roVl (As := [.int (F_X1_k ik)]) (rest := []) (bytes := cX6_x) (maxL := 2) (rty := (some .long)) (n := 1) (ci := 4) C0 (c_X6_x l dC dI cI cJ hG g1 (F_X1_k ik) gv (by first | exact R8.x hi | exact R8.x hj | exact R8.x hk | exact R8.b hi | exact R8.b hj | exact R8.b hk | exact R8.a hi | exact R8.a hj | exact R8.a hk)) ⟨rfl, rfl, rfl, by decide +kernel, by decide, by decide⟩ ggX7_shift_X6_x mm_X7_shift_iX6 mm_X7_shift_l24 mm_X7_shift_nX6_x mm_X7_shift_sX6_x rfl rfl (hP.sub (ws' := [(hG, .inr (4, [.ref g1])), (g1, .inl (cJ, 24, .inr (.inl gv)))]) [1, 2] rfl) hK hl.1 rfl rfl (Nat.le_of_ble_eq_true rfl) dX7_shift_73 ⟨Nat.zero_le _, Nat.zero_le _⟩ ?_
    refine lv_aload_n hx hb dX7_shift_76 rfl (lv_at hl 1 rfl) ?_
    refine lv_aload_n hx hb dX7_shift_77 rfl (lv_at hl 0 rfl) ?_
    refine roVi (As := []) (rest := [.ref hG, .long (F_X6_x (F_X1_k ik) gv)]) (bytes := cX1_j) (maxL := 1) (rty := (some .int)) (n := 0) (ci := 1) C0 (c_X1_j l dC dI cI cJ hI hN hR iop ii ij ik ic ip iu) ⟨rfl, rfl, rfl, by decide +kernel, by decide, by decide⟩ ggX7_shift_X1_j mm_X7_shift_iX1 mm_X7_shift_l21 mm_X7_shift_nX1_j mm_X7_shift_sX1_j rfl rfl (hP.sub (ws' := [(hI, .inr (1, [.int iop, .int ii, .int ij, .int ik, .int ic, .int ip, .int iu, .ref hN, .ref hR]))]) [0] rfl) hK hl.1 rfl rfl (Nat.le_of_ble_eq_true rfl) dX7_shift_78 ⟨Nat.zero_le _, Nat.zero_le _⟩ ?_
    refine roVl (As := [.int (F_X1_j ij)]) (rest := [.long (F_X6_x (F_X1_k ik) gv)]) (bytes := cX6_b) (maxL := 2) (rty := (some .long)) (n := 1) (ci := 4) C0 (c_X6_b l dC dI cI cJ hG g1 (F_X1_j ij) gv (by first | exact R8.x hi | exact R8.x hj | exact R8.x hk | exact R8.b hi | exact R8.b hj | exact R8.b hk | exact R8.a hi | exact R8.a hj | exact R8.a hk)) ⟨rfl, rfl, rfl, by decide +kernel, by decide, by decide⟩ ggX7_shift_X6_b mm_X7_shift_iX6 mm_X7_shift_l74 mm_X7_shift_nX6_b mm_X7_shift_sX6_b rfl rfl (hP.sub (ws' := [(hG, .inr (4, [.ref g1])), (g1, .inl (cJ, 24, .inr (.inl gv)))]) [1, 2] rfl) hK hl.1 rfl rfl (Nat.le_of_ble_eq_true rfl) dX7_shift_81 ⟨Nat.zero_le _, Nat.zero_le _⟩ ?_
    refine lv_iconst (v := (1 : Int32)) hx hb dX7_shift_84 (by decide) ?_
    refine roSl (As := [.long (F_X6_x (F_X1_k ik) gv), .long (F_X6_b (F_X1_j ij) gv), .int (1 : Int32)]) (rest := []) (bytes := cX7_shiftBy) (maxL := 7) (rty := (some .long)) (n := 3) C0 (c_X7_shiftBy l dC dI cI cJ (F_X6_x (F_X1_k ik) gv) (F_X6_b (F_X1_j ij) gv) (1 : Int32)) ⟨rfl, rfl, rfl, by decide +kernel, by decide, by decide⟩ ggX7_shift_X7_shiftBy mm_X7_shift_iX7 mm_X7_shift_l77 mm_X7_shift_tX7_shiftBy (hP.sub (ws' := []) [] rfl) hK hl.1 rfl rfl (Nat.le_of_ble_eq_true rfl) dX7_shift_85 ⟨Nat.zero_le _, Nat.zero_le _⟩ ?_
    have e9 : (F_X7_shift iop ii ij ik gv ) = (F_X7_shiftBy (F_X6_x (F_X1_k ik) gv) (F_X6_b (F_X1_j ij) gv) (1 : Int32)) := by rw [F_X7_shift, if_neg c1, if_neg c2, if_pos c3]
    rw [e9] at hV
    subst hV
    exact roRetL C0 rfl dX7_shift_88
  by_cases c4 : (F_X1_op iop) = (19 : Int32)
  · refine lv_tableIn (tgt := 89) hx hb dX7_shift_4 (by rw [c4]; decide) (by rw [c4]; decide) (by rw [c4]; rfl) (by decide) ?_
    refine lv_aload_n hx hb dX7_shift_89 rfl (lv_at hl 1 rfl) ?_
    refine lv_aload_n hx hb dX7_shift_90 rfl (lv_at hl 0 rfl) ?_
    refine roVi (As := []) (rest := [.ref hG]) (bytes := cX1_k) (maxL := 1) (rty := (some .int)) (n := 0) (ci := 1) C0 (c_X1_k l dC dI cI cJ hI hN hR iop ii ij ik ic ip iu) ⟨rfl, rfl, rfl, by decide +kernel, by decide, by decide⟩ ggX7_shift_X1_k mm_X7_shift_iX1 mm_X7_shift_l30 mm_X7_shift_nX1_k mm_X7_shift_sX1_k rfl rfl (hP.sub (ws' := [(hI, .inr (1, [.int iop, .int ii, .int ij, .int ik, .int ic, .int ip, .int iu, .ref hN, .ref hR]))]) [0] rfl) hK hl.1 rfl rfl (Nat.le_of_ble_eq_true rfl) dX7_shift_91 ⟨Nat.zero_le _, Nat.zero_le _⟩ ?_
    refine roVl (As := [.int (F_X1_k ik)]) (rest := []) (bytes := cX6_x) (maxL := 2) (rty := (some .long)) (n := 1) (ci := 4) C0 (c_X6_x l dC dI cI cJ hG g1 (F_X1_k ik) gv (by first | exact R8.x hi | exact R8.x hj | exact R8.x hk | exact R8.b hi | exact R8.b hj | exact R8.b hk | exact R8.a hi | exact R8.a hj | exact R8.a hk)) ⟨rfl, rfl, rfl, by decide +kernel, by decide, by decide⟩ ggX7_shift_X6_x mm_X7_shift_iX6 mm_X7_shift_l24 mm_X7_shift_nX6_x mm_X7_shift_sX6_x rfl rfl (hP.sub (ws' := [(hG, .inr (4, [.ref g1])), (g1, .inl (cJ, 24, .inr (.inl gv)))]) [1, 2] rfl) hK hl.1 rfl rfl (Nat.le_of_ble_eq_true rfl) dX7_shift_94 ⟨Nat.zero_le _, Nat.zero_le _⟩ ?_
    refine lv_aload_n hx hb dX7_shift_97 rfl (lv_at hl 1 rfl) ?_
    refine lv_aload_n hx hb dX7_shift_98 rfl (lv_at hl 0 rfl) ?_
    refine roVi (As := []) (rest := [.ref hG, .long (F_X6_x (F_X1_k ik) gv)]) (bytes := cX1_j) (maxL := 1) (rty := (some .int)) (n := 0) (ci := 1) C0 (c_X1_j l dC dI cI cJ hI hN hR iop ii ij ik ic ip iu) ⟨rfl, rfl, rfl, by decide +kernel, by decide, by decide⟩ ggX7_shift_X1_j mm_X7_shift_iX1 mm_X7_shift_l21 mm_X7_shift_nX1_j mm_X7_shift_sX1_j rfl rfl (hP.sub (ws' := [(hI, .inr (1, [.int iop, .int ii, .int ij, .int ik, .int ic, .int ip, .int iu, .ref hN, .ref hR]))]) [0] rfl) hK hl.1 rfl rfl (Nat.le_of_ble_eq_true rfl) dX7_shift_99 ⟨Nat.zero_le _, Nat.zero_le _⟩ ?_
    refine roVl (As := [.int (F_X1_j ij)]) (rest := [.long (F_X6_x (F_X1_k ik) gv)]) (bytes := cX6_b) (maxL := 2) (rty := (some .long)) (n := 1) (ci := 4) C0 (c_X6_b l dC dI cI cJ hG g1 (F_X1_j ij) gv (by first | exact R8.x hi | exact R8.x hj | exact R8.x hk | exact R8.b hi | exact R8.b hj | exact R8.b hk | exact R8.a hi | exact R8.a hj | exact R8.a hk)) ⟨rfl, rfl, rfl, by decide +kernel, by decide, by decide⟩ ggX7_shift_X6_b mm_X7_shift_iX6 mm_X7_shift_l74 mm_X7_shift_nX6_b mm_X7_shift_sX6_b rfl rfl (hP.sub (ws' := [(hG, .inr (4, [.ref g1])), (g1, .inl (cJ, 24, .inr (.inl gv)))]) [1, 2] rfl) hK hl.1 rfl rfl (Nat.le_of_ble_eq_true rfl) dX7_shift_102 ⟨Nat.zero_le _, Nat.zero_le _⟩ ?_
    refine lv_iconst (v := (0 : Int32)) hx hb dX7_shift_105 (by decide) ?_
    refine roSl (As := [.long (F_X6_x (F_X1_k ik) gv), .long (F_X6_b (F_X1_j ij) gv), .int (0 : Int32)]) (rest := []) (bytes := cX7_shiftBy) (maxL := 7) (rty := (some .long)) (n := 3) C0 (c_X7_shiftBy l dC dI cI cJ (F_X6_x (F_X1_k ik) gv) (F_X6_b (F_X1_j ij) gv) (0 : Int32)) ⟨rfl, rfl, rfl, by decide +kernel, by decide, by decide⟩ ggX7_shift_X7_shiftBy mm_X7_shift_iX7 mm_X7_shift_l77 mm_X7_shift_tX7_shiftBy (hP.sub (ws' := []) [] rfl) hK hl.1 rfl rfl (Nat.le_of_ble_eq_true rfl) dX7_shift_106 ⟨Nat.zero_le _, Nat.zero_le _⟩ ?_
    have e9 : (F_X7_shift iop ii ij ik gv ) = (F_X7_shiftBy (F_X6_x (F_X1_k ik) gv) (F_X6_b (F_X1_j ij) gv) (0 : Int32)) := by rw [F_X7_shift, if_neg c1, if_neg c2, if_neg c3, if_pos c4]
    rw [e9] at hV
    subst hV
    exact roRetL C0 rfl dX7_shift_109
  refine lv_tableOut (tgt := 110) hx hb dX7_shift_4 (by have q16 := lv_neT (a := 16) c1 (by decide); have q17 := lv_neT (a := 17) c2 (by decide); have q18 := lv_neT (a := 18) c3 (by decide); have q19 := lv_neT (a := 19) c4 (by decide); omega) (by decide) ?_
  refine lv_aload_n hx hb dX7_shift_110 rfl (lv_at hl 0 rfl) ?_
  refine roVi (As := []) (rest := []) (bytes := cX1_jk) (maxL := 1) (rty := (some .int)) (n := 0) (ci := 1) C0 (c_X1_jk l dC dI cI cJ hI hN hR iop ii ij ik ic ip iu) ⟨rfl, rfl, rfl, by decide +kernel, by decide, by decide⟩ ggX7_shift_X1_jk mm_X7_shift_iX1 mm_X7_shift_l62 mm_X7_shift_nX1_jk mm_X7_shift_sX1_jk rfl rfl (hP.sub (ws' := [(hI, .inr (1, [.int iop, .int ii, .int ij, .int ik, .int ic, .int ip, .int iu, .ref hN, .ref hR]))]) [0] rfl) hK hl.1 rfl rfl (Nat.le_of_ble_eq_true rfl) dX7_shift_111 ⟨Nat.zero_le _, Nat.zero_le _⟩ ?_
  refine roSl (As := [.int (F_X1_jk ij ik)]) (rest := []) (bytes := cX4_highestBits) (maxL := 1) (rty := (some .long)) (n := 1) C0 (c_X4_highestBits l dC dI cI cJ (F_X1_jk ij ik)) ⟨rfl, rfl, rfl, by decide +kernel, by decide, by decide⟩ ggX7_shift_X4_highestBits mm_X7_shift_iX4 mm_X7_shift_l81 mm_X7_shift_tX4_highestBits (hP.sub (ws' := []) [] rfl) hK hl.1 rfl rfl (Nat.le_of_ble_eq_true rfl) dX7_shift_114 ⟨Nat.zero_le _, Nat.zero_le _⟩ ?_
  have e9 : (F_X7_shift iop ii ij ik gv ) = (F_X4_highestBits (F_X1_jk ij ik)) := by rw [F_X7_shift, if_neg c1, if_neg c2, if_neg c3, if_neg c4]
  rw [e9] at hV
  subst hV
  exact roRetL C0 rfl dX7_shift_117
theorem c_X7_shift (l : Launch) (dC : Nat → ClassId) (dI : Nat → Nat → Nat) (cI cJ : ClassId) (hI hG g1 hN hR : Nat) (iop : Int32) (ii : Int32) (ij : Int32) (ik : Int32) (ic : Int32) (ip : Int32) (iu : Int32) (gv : Nat → Int64) (hi : R8 ii) (hj : R8 ij) (hk : R8 ik) : RoL l yX7_shift wsX7_shift rm_X7_shift (dC, dI) [(cI, .int), (cJ, .long)] [(hI, .inr (1, [.int iop, .int ii, .int ij, .int ik, .int ic, .int ip, .int iu, .ref hN, .ref hR])), (hG, .inr (4, [.ref g1])), (g1, .inl (cJ, 24, .inr (.inl gv)))] [.ref hI, .ref hG] (F_X7_shift iop ii ij ik gv ) := by
  refine RoL.mk (cc := cX7_shift) (nL := 2) (ret := (some .long)) [(0, .ref hI), (1, .ref hG)] (by decide) rfl (Nat.le_of_ble_eq_true rfl) rfl ?_
  intro p e s m below meth c C0 hP hK ls hl
  exact w_X7_shift dC dI cI cJ hI hG g1 hN hR iop ii ij ik ic ip iu gv C0 hK hP hi hj hk rfl ls hl

-- X7_shortSum
def F_X7_shortSum (iop : Int32) (ij : Int32) (ik : Int32) (ic : Int32) (gv : Nat → Int64) : Int64 :=
  (if ((F_X1_op iop) &&& (7 : Int32)) = (0 : Int32) then (F_X4_sum (F_X6_a (F_X1_j ij) gv) ((F_X1_constant ic).toInt64) (262143 : Int64)) else (if ((F_X1_op iop) &&& (7 : Int32)) = (1 : Int32) then (F_X4_sum (F_X6_b (F_X1_j ij) gv) ((F_X1_constant ic).toInt64) (262143 : Int64)) else (if ((F_X1_op iop) &&& (7 : Int32)) = (2 : Int32) then (F_X4_sum ((F_X6_x (F_X1_j ij) gv) &&& (262143 : Int64)) ((F_X1_constant ic).toInt64) (262143 : Int64)) else (if ((F_X1_op iop) &&& (7 : Int32)) = (3 : Int32) then (F_X4_sum ((F_X6_x (F_X1_j ij) gv) &&& (262143 : Int64)) (F_X6_b (F_X1_k ik) gv) (262143 : Int64)) else (if ((F_X1_op iop) &&& (7 : Int32)) = (4 : Int32) then (F_X4_sum (F_X6_a (F_X1_j ij) gv) (F_X6_b (F_X1_k ik) gv) (262143 : Int64)) else (if ((F_X1_op iop) &&& (7 : Int32)) = (5 : Int32) then (F_X4_difference (F_X6_a (F_X1_j ij) gv) (F_X6_b (F_X1_k ik) gv) (262143 : Int64)) else (if ((F_X1_op iop) &&& (7 : Int32)) = (6 : Int32) then (F_X4_sum (F_X6_b (F_X1_j ij) gv) (F_X6_b (F_X1_k ik) gv) (262143 : Int64)) else (F_X4_difference (F_X6_b (F_X1_j ij) gv) (F_X6_b (F_X1_k ik) gv) (262143 : Int64)))))))))
abbrev rm_X7_shortSum : Room := { frames := 2, cells := 0, slots := 0, locals := 53 }
set_option maxRecDepth 20000 in
theorem mm_X7_shortSum_iX1 : Cond.initialized RX1 ∈ wsX7_shortSum := by decide +kernel
set_option maxRecDepth 20000 in
theorem mm_X7_shortSum_iX4 : Cond.initialized RX4 ∈ wsX7_shortSum := by decide +kernel
set_option maxRecDepth 20000 in
theorem mm_X7_shortSum_iX6 : Cond.initialized RX6 ∈ wsX7_shortSum := by decide +kernel
set_option maxRecDepth 20000 in
theorem mm_X7_shortSum_k126 : Cond.constantLong RX7 126 (262143) ∈ wsX7_shortSum := by decide +kernel
set_option maxRecDepth 20000 in
theorem mm_X7_shortSum_l123 : Cond.methodLink RX7 123 yX6_a ∈ wsX7_shortSum := by decide +kernel
set_option maxRecDepth 20000 in
theorem mm_X7_shortSum_l128 : Cond.methodLink RX7 128 yX1_constant ∈ wsX7_shortSum := by decide +kernel
set_option maxRecDepth 20000 in
theorem mm_X7_shortSum_l18 : Cond.methodLink RX7 18 yX1_op ∈ wsX7_shortSum := by decide +kernel
set_option maxRecDepth 20000 in
theorem mm_X7_shortSum_l21 : Cond.methodLink RX7 21 yX1_j ∈ wsX7_shortSum := by decide +kernel
set_option maxRecDepth 20000 in
theorem mm_X7_shortSum_l24 : Cond.methodLink RX7 24 yX6_x ∈ wsX7_shortSum := by decide +kernel
set_option maxRecDepth 20000 in
theorem mm_X7_shortSum_l30 : Cond.methodLink RX7 30 yX1_k ∈ wsX7_shortSum := by decide +kernel
set_option maxRecDepth 20000 in
theorem mm_X7_shortSum_l74 : Cond.methodLink RX7 74 yX6_b ∈ wsX7_shortSum := by decide +kernel
set_option maxRecDepth 20000 in
theorem mm_X7_shortSum_l90 : Cond.methodLink RX7 90 yX4_sum ∈ wsX7_shortSum := by decide +kernel
set_option maxRecDepth 20000 in
theorem mm_X7_shortSum_l94 : Cond.methodLink RX7 94 yX4_difference ∈ wsX7_shortSum := by decide +kernel
set_option maxRecDepth 20000 in
theorem mm_X7_shortSum_nX1_constant : Cond.instanceMethod yX1_constant ∈ wsX7_shortSum := by decide +kernel
set_option maxRecDepth 20000 in
theorem mm_X7_shortSum_nX1_j : Cond.instanceMethod yX1_j ∈ wsX7_shortSum := by decide +kernel
set_option maxRecDepth 20000 in
theorem mm_X7_shortSum_nX1_k : Cond.instanceMethod yX1_k ∈ wsX7_shortSum := by decide +kernel
set_option maxRecDepth 20000 in
theorem mm_X7_shortSum_nX1_op : Cond.instanceMethod yX1_op ∈ wsX7_shortSum := by decide +kernel
set_option maxRecDepth 20000 in
theorem mm_X7_shortSum_nX6_a : Cond.instanceMethod yX6_a ∈ wsX7_shortSum := by decide +kernel
set_option maxRecDepth 20000 in
theorem mm_X7_shortSum_nX6_b : Cond.instanceMethod yX6_b ∈ wsX7_shortSum := by decide +kernel
set_option maxRecDepth 20000 in
theorem mm_X7_shortSum_nX6_x : Cond.instanceMethod yX6_x ∈ wsX7_shortSum := by decide +kernel
set_option maxRecDepth 20000 in
theorem mm_X7_shortSum_sX1_constant : Cond.selects RX1 yX1_constant yX1_constant ∈ wsX7_shortSum := by decide +kernel
set_option maxRecDepth 20000 in
theorem mm_X7_shortSum_sX1_j : Cond.selects RX1 yX1_j yX1_j ∈ wsX7_shortSum := by decide +kernel
set_option maxRecDepth 20000 in
theorem mm_X7_shortSum_sX1_k : Cond.selects RX1 yX1_k yX1_k ∈ wsX7_shortSum := by decide +kernel
set_option maxRecDepth 20000 in
theorem mm_X7_shortSum_sX1_op : Cond.selects RX1 yX1_op yX1_op ∈ wsX7_shortSum := by decide +kernel
set_option maxRecDepth 20000 in
theorem mm_X7_shortSum_sX6_a : Cond.selects RX6 yX6_a yX6_a ∈ wsX7_shortSum := by decide +kernel
set_option maxRecDepth 20000 in
theorem mm_X7_shortSum_sX6_b : Cond.selects RX6 yX6_b yX6_b ∈ wsX7_shortSum := by decide +kernel
set_option maxRecDepth 20000 in
theorem mm_X7_shortSum_sX6_x : Cond.selects RX6 yX6_x yX6_x ∈ wsX7_shortSum := by decide +kernel
set_option maxRecDepth 20000 in
theorem mm_X7_shortSum_tX4_difference : Cond.static yX4_difference ∈ wsX7_shortSum := by decide +kernel
set_option maxRecDepth 20000 in
theorem mm_X7_shortSum_tX4_sum : Cond.static yX4_sum ∈ wsX7_shortSum := by decide +kernel
set_option maxHeartbeats 4000000 in
set_option maxRecDepth 100000 in
theorem w_X7_shortSum {p : Program} {l : Launch} {e : Env} {s : State} {m : MethodId} {below : List Frame} {meth : Method} {c : Code} {args : Array Value} (dC : Nat → ClassId) (dI : Nat → Nat → Nat) (cI cJ : ClassId) (hI hG g1 hN hR : Nat) (iop : Int32) (ii : Int32) (ij : Int32) (ik : Int32) (ic : Int32) (ip : Int32) (iu : Int32) (gv : Nat → Int64) (C0 : Cx p s m meth c cX7_shortSum 10 (some .long) wsX7_shortSum RX7 args) (hK : va_K (dC, dI) vwCl [(cI, .int), (cJ, .long)] s) (hP : va_P (dC, dI) vwCl [(hI, .inr (1, [.int iop, .int ii, .int ij, .int ik, .int ic, .int ip, .int iu, .ref hN, .ref hR])), (hG, .inr (4, [.ref g1])), (g1, .inl (cJ, 24, .inr (.inl gv)))] s.heap) (hi : R8 ii) (hj : R8 ij) (hk : R8 ik) {V : Int64} (hV : (F_X7_shortSum iop ij ik ic gv ) = V) (ls : Array Slot) (hl : lv_has ls 10 [(0, .ref hI), (1, .ref hG)]) : W p l e rm_X7_shortSum s m args below meth c s.heap [] 0 0 (MQ below (vp_Sl (fun r => r = V)) args s 0 0 (fun _ => False)) (F0 m 0 ls []) := by
  obtain ⟨hx, hb, hr, hlk, hml, hown, hts⟩ := id C0
  refine lv_aload_n hx hb dX7_shortSum_0 rfl (lv_at hl 1 rfl) ?_
  refine lv_aload_n hx hb dX7_shortSum_1 rfl (lv_at hl 0 rfl) ?_
  refine roVi (As := []) (rest := [.ref hG]) (bytes := cX1_j) (maxL := 1) (rty := (some .int)) (n := 0) (ci := 1) C0 (c_X1_j l dC dI cI cJ hI hN hR iop ii ij ik ic ip iu) ⟨rfl, rfl, rfl, by decide +kernel, by decide, by decide⟩ ggX7_shortSum_X1_j mm_X7_shortSum_iX1 mm_X7_shortSum_l21 mm_X7_shortSum_nX1_j mm_X7_shortSum_sX1_j rfl rfl (hP.sub (ws' := [(hI, .inr (1, [.int iop, .int ii, .int ij, .int ik, .int ic, .int ip, .int iu, .ref hN, .ref hR]))]) [0] rfl) hK hl.1 rfl rfl (Nat.le_of_ble_eq_true rfl) dX7_shortSum_2 ⟨Nat.zero_le _, Nat.zero_le _⟩ ?_
  refine roVl (As := [.int (F_X1_j ij)]) (rest := []) (bytes := cX6_a) (maxL := 2) (rty := (some .long)) (n := 1) (ci := 4) C0 (c_X6_a l dC dI cI cJ hG g1 (F_X1_j ij) gv (by first | exact R8.x hi | exact R8.x hj | exact R8.x hk | exact R8.b hi | exact R8.b hj | exact R8.b hk | exact R8.a hi | exact R8.a hj | exact R8.a hk)) ⟨rfl, rfl, rfl, by decide +kernel, by decide, by decide⟩ ggX7_shortSum_X6_a mm_X7_shortSum_iX6 mm_X7_shortSum_l123 mm_X7_shortSum_nX6_a mm_X7_shortSum_sX6_a rfl rfl (hP.sub (ws' := [(hG, .inr (4, [.ref g1])), (g1, .inl (cJ, 24, .inr (.inl gv)))]) [1, 2] rfl) hK hl.1 rfl rfl (Nat.le_of_ble_eq_true rfl) dX7_shortSum_5 ⟨Nat.zero_le _, Nat.zero_le _⟩ ?_
  refine lv_lstore_n (lv' := [(2, .long (F_X6_a (F_X1_j ij) gv)), (0, .ref hI), (1, .ref hG)]) hx hb dX7_shortSum_8 rfl hl (by decide) rfl (fun ls hl => ?_)
  refine lv_aload_n hx hb dX7_shortSum_9 rfl (lv_at hl 2 rfl) ?_
  refine lv_aload_n hx hb dX7_shortSum_10 rfl (lv_at hl 1 rfl) ?_
  refine roVi (As := []) (rest := [.ref hG]) (bytes := cX1_j) (maxL := 1) (rty := (some .int)) (n := 0) (ci := 1) C0 (c_X1_j l dC dI cI cJ hI hN hR iop ii ij ik ic ip iu) ⟨rfl, rfl, rfl, by decide +kernel, by decide, by decide⟩ ggX7_shortSum_X1_j mm_X7_shortSum_iX1 mm_X7_shortSum_l21 mm_X7_shortSum_nX1_j mm_X7_shortSum_sX1_j rfl rfl (hP.sub (ws' := [(hI, .inr (1, [.int iop, .int ii, .int ij, .int ik, .int ic, .int ip, .int iu, .ref hN, .ref hR]))]) [0] rfl) hK hl.1 rfl rfl (Nat.le_of_ble_eq_true rfl) dX7_shortSum_11 ⟨Nat.zero_le _, Nat.zero_le _⟩ ?_
  refine roVl (As := [.int (F_X1_j ij)]) (rest := []) (bytes := cX6_b) (maxL := 2) (rty := (some .long)) (n := 1) (ci := 4) C0 (c_X6_b l dC dI cI cJ hG g1 (F_X1_j ij) gv (by first | exact R8.x hi | exact R8.x hj | exact R8.x hk | exact R8.b hi | exact R8.b hj | exact R8.b hk | exact R8.a hi | exact R8.a hj | exact R8.a hk)) ⟨rfl, rfl, rfl, by decide +kernel, by decide, by decide⟩ ggX7_shortSum_X6_b mm_X7_shortSum_iX6 mm_X7_shortSum_l74 mm_X7_shortSum_nX6_b mm_X7_shortSum_sX6_b rfl rfl (hP.sub (ws' := [(hG, .inr (4, [.ref g1])), (g1, .inl (cJ, 24, .inr (.inl gv)))]) [1, 2] rfl) hK hl.1 rfl rfl (Nat.le_of_ble_eq_true rfl) dX7_shortSum_14 ⟨Nat.zero_le _, Nat.zero_le _⟩ ?_
  refine lv_lstore (lv' := [(4, .long (F_X6_b (F_X1_j ij) gv)), (2, .long (F_X6_a (F_X1_j ij) gv)), (0, .ref hI), (1, .ref hG)]) hx hb dX7_shortSum_17 hl (by decide) rfl (fun ls hl => ?_)
  refine lv_aload_n hx hb dX7_shortSum_19 rfl (lv_at hl 3 rfl) ?_
  refine lv_aload_n hx hb dX7_shortSum_20 rfl (lv_at hl 2 rfl) ?_
  refine roVi (As := []) (rest := [.ref hG]) (bytes := cX1_j) (maxL := 1) (rty := (some .int)) (n := 0) (ci := 1) C0 (c_X1_j l dC dI cI cJ hI hN hR iop ii ij ik ic ip iu) ⟨rfl, rfl, rfl, by decide +kernel, by decide, by decide⟩ ggX7_shortSum_X1_j mm_X7_shortSum_iX1 mm_X7_shortSum_l21 mm_X7_shortSum_nX1_j mm_X7_shortSum_sX1_j rfl rfl (hP.sub (ws' := [(hI, .inr (1, [.int iop, .int ii, .int ij, .int ik, .int ic, .int ip, .int iu, .ref hN, .ref hR]))]) [0] rfl) hK hl.1 rfl rfl (Nat.le_of_ble_eq_true rfl) dX7_shortSum_21 ⟨Nat.zero_le _, Nat.zero_le _⟩ ?_
  refine roVl (As := [.int (F_X1_j ij)]) (rest := []) (bytes := cX6_x) (maxL := 2) (rty := (some .long)) (n := 1) (ci := 4) C0 (c_X6_x l dC dI cI cJ hG g1 (F_X1_j ij) gv (by first | exact R8.x hi | exact R8.x hj | exact R8.x hk | exact R8.b hi | exact R8.b hj | exact R8.b hk | exact R8.a hi | exact R8.a hj | exact R8.a hk)) ⟨rfl, rfl, rfl, by decide +kernel, by decide, by decide⟩ ggX7_shortSum_X6_x mm_X7_shortSum_iX6 mm_X7_shortSum_l24 mm_X7_shortSum_nX6_x mm_X7_shortSum_sX6_x rfl rfl (hP.sub (ws' := [(hG, .inr (4, [.ref g1])), (g1, .inl (cJ, 24, .inr (.inl gv)))]) [1, 2] rfl) hK hl.1 rfl rfl (Nat.le_of_ble_eq_true rfl) dX7_shortSum_24 ⟨Nat.zero_le _, Nat.zero_le _⟩ ?_
  refine lv_ldc2 (v := (262143 : Int64)) hx hb hown (hts _ mm_X7_shortSum_k126) dX7_shortSum_27 ?_
  refine lv_land hx hb dX7_shortSum_30 ?_
  refine lv_lstore (lv' := [(6, .long ((F_X6_x (F_X1_j ij) gv) &&& (262143 : Int64))), (4, .long (F_X6_b (F_X1_j ij) gv)), (2, .long (F_X6_a (F_X1_j ij) gv)), (0, .ref hI), (1, .ref hG)]) hx hb dX7_shortSum_31 hl (by decide) rfl (fun ls hl => ?_)
  refine lv_aload_n hx hb dX7_shortSum_33 rfl (lv_at hl 4 rfl) ?_
  refine lv_aload_n hx hb dX7_shortSum_34 rfl (lv_at hl 3 rfl) ?_
  refine roVi (As := []) (rest := [.ref hG]) (bytes := cX1_k) (maxL := 1) (rty := (some .int)) (n := 0) (ci := 1) C0 (c_X1_k l dC dI cI cJ hI hN hR iop ii ij ik ic ip iu) ⟨rfl, rfl, rfl, by decide +kernel, by decide, by decide⟩ ggX7_shortSum_X1_k mm_X7_shortSum_iX1 mm_X7_shortSum_l30 mm_X7_shortSum_nX1_k mm_X7_shortSum_sX1_k rfl rfl (hP.sub (ws' := [(hI, .inr (1, [.int iop, .int ii, .int ij, .int ik, .int ic, .int ip, .int iu, .ref hN, .ref hR]))]) [0] rfl) hK hl.1 rfl rfl (Nat.le_of_ble_eq_true rfl) dX7_shortSum_35 ⟨Nat.zero_le _, Nat.zero_le _⟩ ?_
  refine roVl (As := [.int (F_X1_k ik)]) (rest := []) (bytes := cX6_b) (maxL := 2) (rty := (some .long)) (n := 1) (ci := 4) C0 (c_X6_b l dC dI cI cJ hG g1 (F_X1_k ik) gv (by first | exact R8.x hi | exact R8.x hj | exact R8.x hk | exact R8.b hi | exact R8.b hj | exact R8.b hk | exact R8.a hi | exact R8.a hj | exact R8.a hk)) ⟨rfl, rfl, rfl, by decide +kernel, by decide, by decide⟩ ggX7_shortSum_X6_b mm_X7_shortSum_iX6 mm_X7_shortSum_l74 mm_X7_shortSum_nX6_b mm_X7_shortSum_sX6_b rfl rfl (hP.sub (ws' := [(hG, .inr (4, [.ref g1])), (g1, .inl (cJ, 24, .inr (.inl gv)))]) [1, 2] rfl) hK hl.1 rfl rfl (Nat.le_of_ble_eq_true rfl) dX7_shortSum_38 ⟨Nat.zero_le _, Nat.zero_le _⟩ ?_
  refine lv_lstore (lv' := [(8, .long (F_X6_b (F_X1_k ik) gv)), (6, .long ((F_X6_x (F_X1_j ij) gv) &&& (262143 : Int64))), (4, .long (F_X6_b (F_X1_j ij) gv)), (2, .long (F_X6_a (F_X1_j ij) gv)), (0, .ref hI), (1, .ref hG)]) hx hb dX7_shortSum_41 hl (by decide) rfl (fun ls hl => ?_)
  refine lv_aload_n hx hb dX7_shortSum_43 rfl (lv_at hl 4 rfl) ?_
  refine roVi (As := []) (rest := []) (bytes := cX1_op) (maxL := 1) (rty := (some .int)) (n := 0) (ci := 1) C0 (c_X1_op l dC dI cI cJ hI hN hR iop ii ij ik ic ip iu) ⟨rfl, rfl, rfl, by decide +kernel, by decide, by decide⟩ ggX7_shortSum_X1_op mm_X7_shortSum_iX1 mm_X7_shortSum_l18 mm_X7_shortSum_nX1_op mm_X7_shortSum_sX1_op rfl rfl (hP.sub (ws' := [(hI, .inr (1, [.int iop, .int ii, .int ij, .int ik, .int ic, .int ip, .int iu, .ref hN, .ref hR]))]) [0] rfl) hK hl.1 rfl rfl (Nat.le_of_ble_eq_true rfl) dX7_shortSum_44 ⟨Nat.zero_le _, Nat.zero_le _⟩ ?_
  refine lv_bipush (v := (7 : Int32)) hx hb dX7_shortSum_47 (by decide) ?_
  refine lv_iand hx hb dX7_shortSum_49 ?_
  by_cases c1 : ((F_X1_op iop) &&& (7 : Int32)) = (0 : Int32)
  · refine lv_tableIn (tgt := 92) hx hb dX7_shortSum_50 (by rw [c1]; decide) (by rw [c1]; decide) (by rw [c1]; rfl) (by decide) ?_
    refine lv_lload_n hx hb dX7_shortSum_92 rfl (lv_at hl 3 rfl) ?_
    refine lv_aload_n hx hb dX7_shortSum_93 rfl (lv_at hl 4 rfl) ?_
    refine roVi (As := []) (rest := [.long (F_X6_a (F_X1_j ij) gv)]) (bytes := cX1_constant) (maxL := 1) (rty := (some .int)) (n := 0) (ci := 1) C0 (c_X1_constant l dC dI cI cJ hI hN hR iop ii ij ik ic ip iu) ⟨rfl, rfl, rfl, by decide +kernel, by decide, by decide⟩ ggX7_shortSum_X1_constant mm_X7_shortSum_iX1 mm_X7_shortSum_l128 mm_X7_shortSum_nX1_constant mm_X7_shortSum_sX1_constant rfl rfl (hP.sub (ws' := [(hI, .inr (1, [.int iop, .int ii, .int ij, .int ik, .int ic, .int ip, .int iu, .ref hN, .ref hR]))]) [0] rfl) hK hl.1 rfl rfl (Nat.le_of_ble_eq_true rfl) dX7_shortSum_94 ⟨Nat.zero_le _, Nat.zero_le _⟩ ?_
    refine lv_i2l hx hb dX7_shortSum_97 rfl ?_
    refine lv_ldc2 (v := (262143 : Int64)) hx hb hown (hts _ mm_X7_shortSum_k126) dX7_shortSum_98 ?_
    refine roSl (As := [.long (F_X6_a (F_X1_j ij) gv), .long (F_X1_constant ic).toInt64, .long (262143 : Int64)]) (rest := []) (bytes := cX4_sum) (maxL := 9) (rty := (some .long)) (n := 3) C0 (c_X4_sum l dC dI cI cJ (F_X6_a (F_X1_j ij) gv) ((F_X1_constant ic).toInt64) (262143 : Int64)) ⟨rfl, rfl, rfl, by decide +kernel, by decide, by decide⟩ ggX7_shortSum_X4_sum mm_X7_shortSum_iX4 mm_X7_shortSum_l90 mm_X7_shortSum_tX4_sum (hP.sub (ws' := []) [] rfl) hK hl.1 rfl rfl (Nat.le_of_ble_eq_true rfl) dX7_shortSum_101 ⟨Nat.zero_le _, Nat.zero_le _⟩ ?_
    have e9 : (F_X7_shortSum iop ij ik ic gv ) = (F_X4_sum (F_X6_a (F_X1_j ij) gv) ((F_X1_constant ic).toInt64) (262143 : Int64)) := by rw [F_X7_shortSum, if_pos c1]
    rw [e9] at hV
    subst hV
    exact roRetL C0 rfl dX7_shortSum_104
  by_cases c2 : ((F_X1_op iop) &&& (7 : Int32)) = (1 : Int32)
  · refine lv_tableIn (tgt := 105) hx hb dX7_shortSum_50 (by rw [c2]; decide) (by rw [c2]; decide) (by rw [c2]; rfl) (by decide) ?_
    refine lv_lload hx hb dX7_shortSum_105 (lv_at hl 2 rfl) ?_
    refine lv_aload_n hx hb dX7_shortSum_107 rfl (lv_at hl 4 rfl) ?_
    refine roVi (As := []) (rest := [.long (F_X6_b (F_X1_j ij) gv)]) (bytes := cX1_constant) (maxL := 1) (rty := (some .int)) (n := 0) (ci := 1) C0 (c_X1_constant l dC dI cI cJ hI hN hR iop ii ij ik ic ip iu) ⟨rfl, rfl, rfl, by decide +kernel, by decide, by decide⟩ ggX7_shortSum_X1_constant mm_X7_shortSum_iX1 mm_X7_shortSum_l128 mm_X7_shortSum_nX1_constant mm_X7_shortSum_sX1_constant rfl rfl (hP.sub (ws' := [(hI, .inr (1, [.int iop, .int ii, .int ij, .int ik, .int ic, .int ip, .int iu, .ref hN, .ref hR]))]) [0] rfl) hK hl.1 rfl rfl (Nat.le_of_ble_eq_true rfl) dX7_shortSum_108 ⟨Nat.zero_le _, Nat.zero_le _⟩ ?_
    refine lv_i2l hx hb dX7_shortSum_111 rfl ?_
    refine lv_ldc2 (v := (262143 : Int64)) hx hb hown (hts _ mm_X7_shortSum_k126) dX7_shortSum_112 ?_
    refine roSl (As := [.long (F_X6_b (F_X1_j ij) gv), .long (F_X1_constant ic).toInt64, .long (262143 : Int64)]) (rest := []) (bytes := cX4_sum) (maxL := 9) (rty := (some .long)) (n := 3) C0 (c_X4_sum l dC dI cI cJ (F_X6_b (F_X1_j ij) gv) ((F_X1_constant ic).toInt64) (262143 : Int64)) ⟨rfl, rfl, rfl, by decide +kernel, by decide, by decide⟩ ggX7_shortSum_X4_sum mm_X7_shortSum_iX4 mm_X7_shortSum_l90 mm_X7_shortSum_tX4_sum (hP.sub (ws' := []) [] rfl) hK hl.1 rfl rfl (Nat.le_of_ble_eq_true rfl) dX7_shortSum_115 ⟨Nat.zero_le _, Nat.zero_le _⟩ ?_
    have e9 : (F_X7_shortSum iop ij ik ic gv ) = (F_X4_sum (F_X6_b (F_X1_j ij) gv) ((F_X1_constant ic).toInt64) (262143 : Int64)) := by rw [F_X7_shortSum, if_neg c1, if_pos c2]
    rw [e9] at hV
    subst hV
    exact roRetL C0 rfl dX7_shortSum_118
  by_cases c3 : ((F_X1_op iop) &&& (7 : Int32)) = (2 : Int32)
  · refine lv_tableIn (tgt := 119) hx hb dX7_shortSum_50 (by rw [c3]; decide) (by rw [c3]; decide) (by rw [c3]; rfl) (by decide) ?_
    refine lv_lload hx hb dX7_shortSum_119 (lv_at hl 1 rfl) ?_
    refine lv_aload_n hx hb dX7_shortSum_121 rfl (lv_at hl 4 rfl) ?_
    refine roVi (As := []) (rest := [.long ((F_X6_x (F_X1_j ij) gv) &&& (262143 : Int64))]) (bytes := cX1_constant) (maxL := 1) (rty := (some .int)) (n := 0) (ci := 1) C0 (c_X1_constant l dC dI cI cJ hI hN hR iop ii ij ik ic ip iu) ⟨rfl, rfl, rfl, by decide +kernel, by decide, by decide⟩ ggX7_shortSum_X1_constant mm_X7_shortSum_iX1 mm_X7_shortSum_l128 mm_X7_shortSum_nX1_constant mm_X7_shortSum_sX1_constant rfl rfl (hP.sub (ws' := [(hI, .inr (1, [.int iop, .int ii, .int ij, .int ik, .int ic, .int ip, .int iu, .ref hN, .ref hR]))]) [0] rfl) hK hl.1 rfl rfl (Nat.le_of_ble_eq_true rfl) dX7_shortSum_122 ⟨Nat.zero_le _, Nat.zero_le _⟩ ?_
    refine lv_i2l hx hb dX7_shortSum_125 rfl ?_
    refine lv_ldc2 (v := (262143 : Int64)) hx hb hown (hts _ mm_X7_shortSum_k126) dX7_shortSum_126 ?_
    refine roSl (As := [.long ((F_X6_x (F_X1_j ij) gv) &&& (262143 : Int64)), .long (F_X1_constant ic).toInt64, .long (262143 : Int64)]) (rest := []) (bytes := cX4_sum) (maxL := 9) (rty := (some .long)) (n := 3) C0 (c_X4_sum l dC dI cI cJ ((F_X6_x (F_X1_j ij) gv) &&& (262143 : Int64)) ((F_X1_constant ic).toInt64) (262143 : Int64)) ⟨rfl, rfl, rfl, by decide +kernel, by decide, by decide⟩ ggX7_shortSum_X4_sum mm_X7_shortSum_iX4 mm_X7_shortSum_l90 mm_X7_shortSum_tX4_sum (hP.sub (ws' := []) [] rfl) hK hl.1 rfl rfl (Nat.le_of_ble_eq_true rfl) dX7_shortSum_129 ⟨Nat.zero_le _, Nat.zero_le _⟩ ?_
    have e9 : (F_X7_shortSum iop ij ik ic gv ) = (F_X4_sum ((F_X6_x (F_X1_j ij) gv) &&& (262143 : Int64)) ((F_X1_constant ic).toInt64) (262143 : Int64)) := by rw [F_X7_shortSum, if_neg c1, if_neg c2, if_pos c3]
    rw [e9] at hV
    subst hV
    exact roRetL C0 rfl dX7_shortSum_132
  by_cases c4 : ((F_X1_op iop) &&& (7 : Int32)) = (3 : Int32)
  · refine lv_tableIn (tgt := 133) hx hb dX7_shortSum_50 (by rw [c4]; decide) (by rw [c4]; decide) (by rw [c4]; rfl) (by decide) ?_
    refine lv_lload hx hb dX7_shortSum_133 (lv_at hl 1 rfl) ?_
    refine lv_lload hx hb dX7_shortSum_135 (lv_at hl 0 rfl) ?_
    refine lv_ldc2 (v := (262143 : Int64)) hx hb hown (hts _ mm_X7_shortSum_k126) dX7_shortSum_137 ?_
    refine roSl (As := [.long ((F_X6_x (F_X1_j ij) gv) &&& (262143 : Int64)), .long (F_X6_b (F_X1_k ik) gv), .long (262143 : Int64)]) (rest := []) (bytes := cX4_sum) (maxL := 9) (rty := (some .long)) (n := 3) C0 (c_X4_sum l dC dI cI cJ ((F_X6_x (F_X1_j ij) gv) &&& (262143 : Int64)) (F_X6_b (F_X1_k ik) gv) (262143 : Int64)) ⟨rfl, rfl, rfl, by decide +kernel, by decide, by decide⟩ ggX7_shortSum_X4_sum mm_X7_shortSum_iX4 mm_X7_shortSum_l90 mm_X7_shortSum_tX4_sum (hP.sub (ws' := []) [] rfl) hK hl.1 rfl rfl (Nat.le_of_ble_eq_true rfl) dX7_shortSum_140 ⟨Nat.zero_le _, Nat.zero_le _⟩ ?_
    have e9 : (F_X7_shortSum iop ij ik ic gv ) = (F_X4_sum ((F_X6_x (F_X1_j ij) gv) &&& (262143 : Int64)) (F_X6_b (F_X1_k ik) gv) (262143 : Int64)) := by rw [F_X7_shortSum, if_neg c1, if_neg c2, if_neg c3, if_pos c4]
    rw [e9] at hV
    subst hV
    exact roRetL C0 rfl dX7_shortSum_143
  by_cases c5 : ((F_X1_op iop) &&& (7 : Int32)) = (4 : Int32)
  · refine lv_tableIn (tgt := 144) hx hb dX7_shortSum_50 (by rw [c5]; decide) (by rw [c5]; decide) (by rw [c5]; rfl) (by decide) ?_
    refine lv_lload_n hx hb dX7_shortSum_144 rfl (lv_at hl 3 rfl) ?_
    refine lv_lload hx hb dX7_shortSum_145 (lv_at hl 0 rfl) ?_
    refine lv_ldc2 (v := (262143 : Int64)) hx hb hown (hts _ mm_X7_shortSum_k126) dX7_shortSum_147 ?_
    refine roSl (As := [.long (F_X6_a (F_X1_j ij) gv), .long (F_X6_b (F_X1_k ik) gv), .long (262143 : Int64)]) (rest := []) (bytes := cX4_sum) (maxL := 9) (rty := (some .long)) (n := 3) C0 (c_X4_sum l dC dI cI cJ (F_X6_a (F_X1_j ij) gv) (F_X6_b (F_X1_k ik) gv) (262143 : Int64)) ⟨rfl, rfl, rfl, by decide +kernel, by decide, by decide⟩ ggX7_shortSum_X4_sum mm_X7_shortSum_iX4 mm_X7_shortSum_l90 mm_X7_shortSum_tX4_sum (hP.sub (ws' := []) [] rfl) hK hl.1 rfl rfl (Nat.le_of_ble_eq_true rfl) dX7_shortSum_150 ⟨Nat.zero_le _, Nat.zero_le _⟩ ?_
    have e9 : (F_X7_shortSum iop ij ik ic gv ) = (F_X4_sum (F_X6_a (F_X1_j ij) gv) (F_X6_b (F_X1_k ik) gv) (262143 : Int64)) := by rw [F_X7_shortSum, if_neg c1, if_neg c2, if_neg c3, if_neg c4, if_pos c5]
    rw [e9] at hV
    subst hV
    exact roRetL C0 rfl dX7_shortSum_153
  by_cases c6 : ((F_X1_op iop) &&& (7 : Int32)) = (5 : Int32)
  · refine lv_tableIn (tgt := 154) hx hb dX7_shortSum_50 (by rw [c6]; decide) (by rw [c6]; decide) (by rw [c6]; rfl) (by decide) ?_
    refine lv_lload_n hx hb dX7_shortSum_154 rfl (lv_at hl 3 rfl) ?_
    refine lv_lload hx hb dX7_shortSum_155 (lv_at hl 0 rfl) ?_
    refine lv_ldc2 (v := (262143 : Int64)) hx hb hown (hts _ mm_X7_shortSum_k126) dX7_shortSum_157 ?_
    refine roSl (As := [.long (F_X6_a (F_X1_j ij) gv), .long (F_X6_b (F_X1_k ik) gv), .long (262143 : Int64)]) (rest := []) (bytes := cX4_difference) (maxL := 6) (rty := (some .long)) (n := 3) C0 (c_X4_difference l dC dI cI cJ (F_X6_a (F_X1_j ij) gv) (F_X6_b (F_X1_k ik) gv) (262143 : Int64)) ⟨rfl, rfl, rfl, by decide +kernel, by decide, by decide⟩ ggX7_shortSum_X4_difference mm_X7_shortSum_iX4 mm_X7_shortSum_l94 mm_X7_shortSum_tX4_difference (hP.sub (ws' := []) [] rfl) hK hl.1 rfl rfl (Nat.le_of_ble_eq_true rfl) dX7_shortSum_160 ⟨Nat.zero_le _, Nat.zero_le _⟩ ?_
    have e9 : (F_X7_shortSum iop ij ik ic gv ) = (F_X4_difference (F_X6_a (F_X1_j ij) gv) (F_X6_b (F_X1_k ik) gv) (262143 : Int64)) := by rw [F_X7_shortSum, if_neg c1, if_neg c2, if_neg c3, if_neg c4, if_neg c5, if_pos c6]
    rw [e9] at hV
    subst hV
    exact roRetL C0 rfl dX7_shortSum_163
  by_cases c7 : ((F_X1_op iop) &&& (7 : Int32)) = (6 : Int32)
  · refine lv_tableIn (tgt := 164) hx hb dX7_shortSum_50 (by rw [c7]; decide) (by rw [c7]; decide) (by rw [c7]; rfl) (by decide) ?_
    refine lv_lload hx hb dX7_shortSum_164 (lv_at hl 2 rfl) ?_
    refine lv_lload hx hb dX7_shortSum_166 (lv_at hl 0 rfl) ?_
    refine lv_ldc2 (v := (262143 : Int64)) hx hb hown (hts _ mm_X7_shortSum_k126) dX7_shortSum_168 ?_
    refine roSl (As := [.long (F_X6_b (F_X1_j ij) gv), .long (F_X6_b (F_X1_k ik) gv), .long (262143 : Int64)]) (rest := []) (bytes := cX4_sum) (maxL := 9) (rty := (some .long)) (n := 3) C0 (c_X4_sum l dC dI cI cJ (F_X6_b (F_X1_j ij) gv) (F_X6_b (F_X1_k ik) gv) (262143 : Int64)) ⟨rfl, rfl, rfl, by decide +kernel, by decide, by decide⟩ ggX7_shortSum_X4_sum mm_X7_shortSum_iX4 mm_X7_shortSum_l90 mm_X7_shortSum_tX4_sum (hP.sub (ws' := []) [] rfl) hK hl.1 rfl rfl (Nat.le_of_ble_eq_true rfl) dX7_shortSum_171 ⟨Nat.zero_le _, Nat.zero_le _⟩ ?_
    have e9 : (F_X7_shortSum iop ij ik ic gv ) = (F_X4_sum (F_X6_b (F_X1_j ij) gv) (F_X6_b (F_X1_k ik) gv) (262143 : Int64)) := by rw [F_X7_shortSum, if_neg c1, if_neg c2, if_neg c3, if_neg c4, if_neg c5, if_neg c6, if_pos c7]
    rw [e9] at hV
    subst hV
    exact roRetL C0 rfl dX7_shortSum_174
  refine lv_tableOut (tgt := 175) hx hb dX7_shortSum_50 (by have q0 := lv_neT (a := 0) c1 (by decide); have q1 := lv_neT (a := 1) c2 (by decide); have q2 := lv_neT (a := 2) c3 (by decide); have q3 := lv_neT (a := 3) c4 (by decide); have q4 := lv_neT (a := 4) c5 (by decide); have q5 := lv_neT (a := 5) c6 (by decide); have q6 := lv_neT (a := 6) c7 (by decide); omega) (by decide) ?_
  refine lv_lload hx hb dX7_shortSum_175 (lv_at hl 2 rfl) ?_
  refine lv_lload hx hb dX7_shortSum_177 (lv_at hl 0 rfl) ?_
  refine lv_ldc2 (v := (262143 : Int64)) hx hb hown (hts _ mm_X7_shortSum_k126) dX7_shortSum_179 ?_
  refine roSl (As := [.long (F_X6_b (F_X1_j ij) gv), .long (F_X6_b (F_X1_k ik) gv), .long (262143 : Int64)]) (rest := []) (bytes := cX4_difference) (maxL := 6) (rty := (some .long)) (n := 3) C0 (c_X4_difference l dC dI cI cJ (F_X6_b (F_X1_j ij) gv) (F_X6_b (F_X1_k ik) gv) (262143 : Int64)) ⟨rfl, rfl, rfl, by decide +kernel, by decide, by decide⟩ ggX7_shortSum_X4_difference mm_X7_shortSum_iX4 mm_X7_shortSum_l94 mm_X7_shortSum_tX4_difference (hP.sub (ws' := []) [] rfl) hK hl.1 rfl rfl (Nat.le_of_ble_eq_true rfl) dX7_shortSum_182 ⟨Nat.zero_le _, Nat.zero_le _⟩ ?_
  have e9 : (F_X7_shortSum iop ij ik ic gv ) = (F_X4_difference (F_X6_b (F_X1_j ij) gv) (F_X6_b (F_X1_k ik) gv) (262143 : Int64)) := by rw [F_X7_shortSum, if_neg c1, if_neg c2, if_neg c3, if_neg c4, if_neg c5, if_neg c6, if_neg c7]
  rw [e9] at hV
  subst hV
  exact roRetL C0 rfl dX7_shortSum_185
theorem c_X7_shortSum (l : Launch) (dC : Nat → ClassId) (dI : Nat → Nat → Nat) (cI cJ : ClassId) (hI hG g1 hN hR : Nat) (iop : Int32) (ii : Int32) (ij : Int32) (ik : Int32) (ic : Int32) (ip : Int32) (iu : Int32) (gv : Nat → Int64) (hi : R8 ii) (hj : R8 ij) (hk : R8 ik) : RoL l yX7_shortSum wsX7_shortSum rm_X7_shortSum (dC, dI) [(cI, .int), (cJ, .long)] [(hI, .inr (1, [.int iop, .int ii, .int ij, .int ik, .int ic, .int ip, .int iu, .ref hN, .ref hR])), (hG, .inr (4, [.ref g1])), (g1, .inl (cJ, 24, .inr (.inl gv)))] [.ref hI, .ref hG] (F_X7_shortSum iop ij ik ic gv ) := by
  refine RoL.mk (cc := cX7_shortSum) (nL := 10) (ret := (some .long)) [(0, .ref hI), (1, .ref hG)] (by decide) rfl (Nat.le_of_ble_eq_true rfl) rfl ?_
  intro p e s m below meth c C0 hP hK ls hl
  exact w_X7_shortSum dC dI cI cJ hI hG g1 hN hR iop ii ij ik ic ip iu gv C0 hK hP hi hj hk rfl ls hl

-- J13_bitCount_95d88
def F_J13_bitCount_95d88 (a : Int64) : Int32 :=
  (((((((((a - (((a.toUInt64 >>> ((1 : Int32).toInt64.toUInt64 &&& Int64.toUInt64 63)).toInt64) &&& (6148914691236517205 : Int64))) &&& (3689348814741910323 : Int64)) + ((((a - (((a.toUInt64 >>> ((1 : Int32).toInt64.toUInt64 &&& Int64.toUInt64 63)).toInt64) &&& (6148914691236517205 : Int64))).toUInt64 >>> ((2 : Int32).toInt64.toUInt64 &&& Int64.toUInt64 63)).toInt64) &&& (3689348814741910323 : Int64))) + (((((a - (((a.toUInt64 >>> ((1 : Int32).toInt64.toUInt64 &&& Int64.toUInt64 63)).toInt64) &&& (6148914691236517205 : Int64))) &&& (3689348814741910323 : Int64)) + ((((a - (((a.toUInt64 >>> ((1 : Int32).toInt64.toUInt64 &&& Int64.toUInt64 63)).toInt64) &&& (6148914691236517205 : Int64))).toUInt64 >>> ((2 : Int32).toInt64.toUInt64 &&& Int64.toUInt64 63)).toInt64) &&& (3689348814741910323 : Int64))).toUInt64 >>> ((4 : Int32).toInt64.toUInt64 &&& Int64.toUInt64 63)).toInt64)) &&& (1085102592571150095 : Int64)) + (((((((a - (((a.toUInt64 >>> ((1 : Int32).toInt64.toUInt64 &&& Int64.toUInt64 63)).toInt64) &&& (6148914691236517205 : Int64))) &&& (3689348814741910323 : Int64)) + ((((a - (((a.toUInt64 >>> ((1 : Int32).toInt64.toUInt64 &&& Int64.toUInt64 63)).toInt64) &&& (6148914691236517205 : Int64))).toUInt64 >>> ((2 : Int32).toInt64.toUInt64 &&& Int64.toUInt64 63)).toInt64) &&& (3689348814741910323 : Int64))) + (((((a - (((a.toUInt64 >>> ((1 : Int32).toInt64.toUInt64 &&& Int64.toUInt64 63)).toInt64) &&& (6148914691236517205 : Int64))) &&& (3689348814741910323 : Int64)) + ((((a - (((a.toUInt64 >>> ((1 : Int32).toInt64.toUInt64 &&& Int64.toUInt64 63)).toInt64) &&& (6148914691236517205 : Int64))).toUInt64 >>> ((2 : Int32).toInt64.toUInt64 &&& Int64.toUInt64 63)).toInt64) &&& (3689348814741910323 : Int64))).toUInt64 >>> ((4 : Int32).toInt64.toUInt64 &&& Int64.toUInt64 63)).toInt64)) &&& (1085102592571150095 : Int64)).toUInt64 >>> ((8 : Int32).toInt64.toUInt64 &&& Int64.toUInt64 63)).toInt64)) + ((((((((a - (((a.toUInt64 >>> ((1 : Int32).toInt64.toUInt64 &&& Int64.toUInt64 63)).toInt64) &&& (6148914691236517205 : Int64))) &&& (3689348814741910323 : Int64)) + ((((a - (((a.toUInt64 >>> ((1 : Int32).toInt64.toUInt64 &&& Int64.toUInt64 63)).toInt64) &&& (6148914691236517205 : Int64))).toUInt64 >>> ((2 : Int32).toInt64.toUInt64 &&& Int64.toUInt64 63)).toInt64) &&& (3689348814741910323 : Int64))) + (((((a - (((a.toUInt64 >>> ((1 : Int32).toInt64.toUInt64 &&& Int64.toUInt64 63)).toInt64) &&& (6148914691236517205 : Int64))) &&& (3689348814741910323 : Int64)) + ((((a - (((a.toUInt64 >>> ((1 : Int32).toInt64.toUInt64 &&& Int64.toUInt64 63)).toInt64) &&& (6148914691236517205 : Int64))).toUInt64 >>> ((2 : Int32).toInt64.toUInt64 &&& Int64.toUInt64 63)).toInt64) &&& (3689348814741910323 : Int64))).toUInt64 >>> ((4 : Int32).toInt64.toUInt64 &&& Int64.toUInt64 63)).toInt64)) &&& (1085102592571150095 : Int64)) + (((((((a - (((a.toUInt64 >>> ((1 : Int32).toInt64.toUInt64 &&& Int64.toUInt64 63)).toInt64) &&& (6148914691236517205 : Int64))) &&& (3689348814741910323 : Int64)) + ((((a - (((a.toUInt64 >>> ((1 : Int32).toInt64.toUInt64 &&& Int64.toUInt64 63)).toInt64) &&& (6148914691236517205 : Int64))).toUInt64 >>> ((2 : Int32).toInt64.toUInt64 &&& Int64.toUInt64 63)).toInt64) &&& (3689348814741910323 : Int64))) + (((((a - (((a.toUInt64 >>> ((1 : Int32).toInt64.toUInt64 &&& Int64.toUInt64 63)).toInt64) &&& (6148914691236517205 : Int64))) &&& (3689348814741910323 : Int64)) + ((((a - (((a.toUInt64 >>> ((1 : Int32).toInt64.toUInt64 &&& Int64.toUInt64 63)).toInt64) &&& (6148914691236517205 : Int64))).toUInt64 >>> ((2 : Int32).toInt64.toUInt64 &&& Int64.toUInt64 63)).toInt64) &&& (3689348814741910323 : Int64))).toUInt64 >>> ((4 : Int32).toInt64.toUInt64 &&& Int64.toUInt64 63)).toInt64)) &&& (1085102592571150095 : Int64)).toUInt64 >>> ((8 : Int32).toInt64.toUInt64 &&& Int64.toUInt64 63)).toInt64)).toUInt64 >>> ((16 : Int32).toInt64.toUInt64 &&& Int64.toUInt64 63)).toInt64)) + (((((((((a - (((a.toUInt64 >>> ((1 : Int32).toInt64.toUInt64 &&& Int64.toUInt64 63)).toInt64) &&& (6148914691236517205 : Int64))) &&& (3689348814741910323 : Int64)) + ((((a - (((a.toUInt64 >>> ((1 : Int32).toInt64.toUInt64 &&& Int64.toUInt64 63)).toInt64) &&& (6148914691236517205 : Int64))).toUInt64 >>> ((2 : Int32).toInt64.toUInt64 &&& Int64.toUInt64 63)).toInt64) &&& (3689348814741910323 : Int64))) + (((((a - (((a.toUInt64 >>> ((1 : Int32).toInt64.toUInt64 &&& Int64.toUInt64 63)).toInt64) &&& (6148914691236517205 : Int64))) &&& (3689348814741910323 : Int64)) + ((((a - (((a.toUInt64 >>> ((1 : Int32).toInt64.toUInt64 &&& Int64.toUInt64 63)).toInt64) &&& (6148914691236517205 : Int64))).toUInt64 >>> ((2 : Int32).toInt64.toUInt64 &&& Int64.toUInt64 63)).toInt64) &&& (3689348814741910323 : Int64))).toUInt64 >>> ((4 : Int32).toInt64.toUInt64 &&& Int64.toUInt64 63)).toInt64)) &&& (1085102592571150095 : Int64)) + (((((((a - (((a.toUInt64 >>> ((1 : Int32).toInt64.toUInt64 &&& Int64.toUInt64 63)).toInt64) &&& (6148914691236517205 : Int64))) &&& (3689348814741910323 : Int64)) + ((((a - (((a.toUInt64 >>> ((1 : Int32).toInt64.toUInt64 &&& Int64.toUInt64 63)).toInt64) &&& (6148914691236517205 : Int64))).toUInt64 >>> ((2 : Int32).toInt64.toUInt64 &&& Int64.toUInt64 63)).toInt64) &&& (3689348814741910323 : Int64))) + (((((a - (((a.toUInt64 >>> ((1 : Int32).toInt64.toUInt64 &&& Int64.toUInt64 63)).toInt64) &&& (6148914691236517205 : Int64))) &&& (3689348814741910323 : Int64)) + ((((a - (((a.toUInt64 >>> ((1 : Int32).toInt64.toUInt64 &&& Int64.toUInt64 63)).toInt64) &&& (6148914691236517205 : Int64))).toUInt64 >>> ((2 : Int32).toInt64.toUInt64 &&& Int64.toUInt64 63)).toInt64) &&& (3689348814741910323 : Int64))).toUInt64 >>> ((4 : Int32).toInt64.toUInt64 &&& Int64.toUInt64 63)).toInt64)) &&& (1085102592571150095 : Int64)).toUInt64 >>> ((8 : Int32).toInt64.toUInt64 &&& Int64.toUInt64 63)).toInt64)) + ((((((((a - (((a.toUInt64 >>> ((1 : Int32).toInt64.toUInt64 &&& Int64.toUInt64 63)).toInt64) &&& (6148914691236517205 : Int64))) &&& (3689348814741910323 : Int64)) + ((((a - (((a.toUInt64 >>> ((1 : Int32).toInt64.toUInt64 &&& Int64.toUInt64 63)).toInt64) &&& (6148914691236517205 : Int64))).toUInt64 >>> ((2 : Int32).toInt64.toUInt64 &&& Int64.toUInt64 63)).toInt64) &&& (3689348814741910323 : Int64))) + (((((a - (((a.toUInt64 >>> ((1 : Int32).toInt64.toUInt64 &&& Int64.toUInt64 63)).toInt64) &&& (6148914691236517205 : Int64))) &&& (3689348814741910323 : Int64)) + ((((a - (((a.toUInt64 >>> ((1 : Int32).toInt64.toUInt64 &&& Int64.toUInt64 63)).toInt64) &&& (6148914691236517205 : Int64))).toUInt64 >>> ((2 : Int32).toInt64.toUInt64 &&& Int64.toUInt64 63)).toInt64) &&& (3689348814741910323 : Int64))).toUInt64 >>> ((4 : Int32).toInt64.toUInt64 &&& Int64.toUInt64 63)).toInt64)) &&& (1085102592571150095 : Int64)) + (((((((a - (((a.toUInt64 >>> ((1 : Int32).toInt64.toUInt64 &&& Int64.toUInt64 63)).toInt64) &&& (6148914691236517205 : Int64))) &&& (3689348814741910323 : Int64)) + ((((a - (((a.toUInt64 >>> ((1 : Int32).toInt64.toUInt64 &&& Int64.toUInt64 63)).toInt64) &&& (6148914691236517205 : Int64))).toUInt64 >>> ((2 : Int32).toInt64.toUInt64 &&& Int64.toUInt64 63)).toInt64) &&& (3689348814741910323 : Int64))) + (((((a - (((a.toUInt64 >>> ((1 : Int32).toInt64.toUInt64 &&& Int64.toUInt64 63)).toInt64) &&& (6148914691236517205 : Int64))) &&& (3689348814741910323 : Int64)) + ((((a - (((a.toUInt64 >>> ((1 : Int32).toInt64.toUInt64 &&& Int64.toUInt64 63)).toInt64) &&& (6148914691236517205 : Int64))).toUInt64 >>> ((2 : Int32).toInt64.toUInt64 &&& Int64.toUInt64 63)).toInt64) &&& (3689348814741910323 : Int64))).toUInt64 >>> ((4 : Int32).toInt64.toUInt64 &&& Int64.toUInt64 63)).toInt64)) &&& (1085102592571150095 : Int64)).toUInt64 >>> ((8 : Int32).toInt64.toUInt64 &&& Int64.toUInt64 63)).toInt64)).toUInt64 >>> ((16 : Int32).toInt64.toUInt64 &&& Int64.toUInt64 63)).toInt64)).toUInt64 >>> ((32 : Int32).toInt64.toUInt64 &&& Int64.toUInt64 63)).toInt64)).toInt32 &&& (127 : Int32))
abbrev rm_J13_bitCount_95d88 : Room := { frames := 0, cells := 0, slots := 0, locals := 0 }
set_option maxRecDepth 20000 in
theorem mm_J13_bitCount_95d88_k314 : Cond.constantLong RJ13 314 (6148914691236517205) ∈ wsJ13_bitCount_95d88 := by decide +kernel
set_option maxRecDepth 20000 in
theorem mm_J13_bitCount_95d88_k316 : Cond.constantLong RJ13 316 (3689348814741910323) ∈ wsJ13_bitCount_95d88 := by decide +kernel
set_option maxRecDepth 20000 in
theorem mm_J13_bitCount_95d88_k318 : Cond.constantLong RJ13 318 (1085102592571150095) ∈ wsJ13_bitCount_95d88 := by decide +kernel
set_option maxHeartbeats 4000000 in
set_option maxRecDepth 100000 in
theorem w_J13_bitCount_95d88 {p : Program} {l : Launch} {e : Env} {s : State} {m : MethodId} {below : List Frame} {meth : Method} {c : Code} {args : Array Value} (dC : Nat → ClassId) (dI : Nat → Nat → Nat) (cI cJ : ClassId) (a : Int64) (C0 : Cx p s m meth c cJ13_bitCount_95d88 2 (some .int) wsJ13_bitCount_95d88 RJ13 args) (hK : va_K (dC, dI) vwCl [(cI, .int), (cJ, .long)] s) (hP : va_P (dC, dI) vwCl [] s.heap) {V : Int32} (hV : (F_J13_bitCount_95d88 a ) = V) (ls : Array Slot) (hl : lv_has ls 2 [(0, .long a)]) : W p l e rm_J13_bitCount_95d88 s m args below meth c s.heap [] 0 0 (MQ below (vp_Si (fun r => r = V)) args s 0 0 (fun _ => False)) (F0 m 0 ls []) := by
  obtain ⟨hx, hb, hr, hlk, hml, hown, hts⟩ := id C0
  refine lv_lload_n hx hb dJ13_bitCount_95d88_0 rfl (lv_at hl 0 rfl) ?_
  refine lv_lload_n hx hb dJ13_bitCount_95d88_1 rfl (lv_at hl 0 rfl) ?_
  refine lv_iconst (v := (1 : Int32)) hx hb dJ13_bitCount_95d88_2 (by decide) ?_
  refine lv_lushr hx hb dJ13_bitCount_95d88_3 rfl ?_
  refine lv_ldc2 (v := (6148914691236517205 : Int64)) hx hb hown (hts _ mm_J13_bitCount_95d88_k314) dJ13_bitCount_95d88_4 ?_
  refine lv_land hx hb dJ13_bitCount_95d88_7 ?_
  refine lv_lsub hx hb dJ13_bitCount_95d88_8 ?_
  refine lv_lstore_n (lv' := [(0, .long (a - (((a.toUInt64 >>> ((1 : Int32).toInt64.toUInt64 &&& Int64.toUInt64 63)).toInt64) &&& (6148914691236517205 : Int64))))]) hx hb dJ13_bitCount_95d88_9 rfl hl (by decide) rfl (fun ls hl => ?_)
  refine lv_lload_n hx hb dJ13_bitCount_95d88_10 rfl (lv_at hl 0 rfl) ?_
  refine lv_ldc2 (v := (3689348814741910323 : Int64)) hx hb hown (hts _ mm_J13_bitCount_95d88_k316) dJ13_bitCount_95d88_11 ?_
  refine lv_land hx hb dJ13_bitCount_95d88_14 ?_
  refine lv_lload_n hx hb dJ13_bitCount_95d88_15 rfl (lv_at hl 0 rfl) ?_
  refine lv_iconst (v := (2 : Int32)) hx hb dJ13_bitCount_95d88_16 (by decide) ?_
  refine lv_lushr hx hb dJ13_bitCount_95d88_17 rfl ?_
  refine lv_ldc2 (v := (3689348814741910323 : Int64)) hx hb hown (hts _ mm_J13_bitCount_95d88_k316) dJ13_bitCount_95d88_18 ?_
  refine lv_land hx hb dJ13_bitCount_95d88_21 ?_
  refine lv_ladd hx hb dJ13_bitCount_95d88_22 ?_
  refine lv_lstore_n (lv' := [(0, .long (((a - (((a.toUInt64 >>> ((1 : Int32).toInt64.toUInt64 &&& Int64.toUInt64 63)).toInt64) &&& (6148914691236517205 : Int64))) &&& (3689348814741910323 : Int64)) + ((((a - (((a.toUInt64 >>> ((1 : Int32).toInt64.toUInt64 &&& Int64.toUInt64 63)).toInt64) &&& (6148914691236517205 : Int64))).toUInt64 >>> ((2 : Int32).toInt64.toUInt64 &&& Int64.toUInt64 63)).toInt64) &&& (3689348814741910323 : Int64))))]) hx hb dJ13_bitCount_95d88_23 rfl hl (by decide) rfl (fun ls hl => ?_)
  refine lv_lload_n hx hb dJ13_bitCount_95d88_24 rfl (lv_at hl 0 rfl) ?_
  refine lv_lload_n hx hb dJ13_bitCount_95d88_25 rfl (lv_at hl 0 rfl) ?_
  refine lv_iconst (v := (4 : Int32)) hx hb dJ13_bitCount_95d88_26 (by decide) ?_
  refine lv_lushr hx hb dJ13_bitCount_95d88_27 rfl ?_
  refine lv_ladd hx hb dJ13_bitCount_95d88_28 ?_
  refine lv_ldc2 (v := (1085102592571150095 : Int64)) hx hb hown (hts _ mm_J13_bitCount_95d88_k318) dJ13_bitCount_95d88_29 ?_
  refine lv_land hx hb dJ13_bitCount_95d88_32 ?_
  refine lv_lstore_n (lv' := [(0, .long (((((a - (((a.toUInt64 >>> ((1 : Int32).toInt64.toUInt64 &&& Int64.toUInt64 63)).toInt64) &&& (6148914691236517205 : Int64))) &&& (3689348814741910323 : Int64)) + ((((a - (((a.toUInt64 >>> ((1 : Int32).toInt64.toUInt64 &&& Int64.toUInt64 63)).toInt64) &&& (6148914691236517205 : Int64))).toUInt64 >>> ((2 : Int32).toInt64.toUInt64 &&& Int64.toUInt64 63)).toInt64) &&& (3689348814741910323 : Int64))) + (((((a - (((a.toUInt64 >>> ((1 : Int32).toInt64.toUInt64 &&& Int64.toUInt64 63)).toInt64) &&& (6148914691236517205 : Int64))) &&& (3689348814741910323 : Int64)) + ((((a - (((a.toUInt64 >>> ((1 : Int32).toInt64.toUInt64 &&& Int64.toUInt64 63)).toInt64) &&& (6148914691236517205 : Int64))).toUInt64 >>> ((2 : Int32).toInt64.toUInt64 &&& Int64.toUInt64 63)).toInt64) &&& (3689348814741910323 : Int64))).toUInt64 >>> ((4 : Int32).toInt64.toUInt64 &&& Int64.toUInt64 63)).toInt64)) &&& (1085102592571150095 : Int64)))]) hx hb dJ13_bitCount_95d88_33 rfl hl (by decide) rfl (fun ls hl => ?_)
  refine lv_lload_n hx hb dJ13_bitCount_95d88_34 rfl (lv_at hl 0 rfl) ?_
  refine lv_lload_n hx hb dJ13_bitCount_95d88_35 rfl (lv_at hl 0 rfl) ?_
  refine lv_bipush (v := (8 : Int32)) hx hb dJ13_bitCount_95d88_36 (by decide) ?_
  refine lv_lushr hx hb dJ13_bitCount_95d88_38 rfl ?_
  refine lv_ladd hx hb dJ13_bitCount_95d88_39 ?_
  refine lv_lstore_n (lv' := [(0, .long ((((((a - (((a.toUInt64 >>> ((1 : Int32).toInt64.toUInt64 &&& Int64.toUInt64 63)).toInt64) &&& (6148914691236517205 : Int64))) &&& (3689348814741910323 : Int64)) + ((((a - (((a.toUInt64 >>> ((1 : Int32).toInt64.toUInt64 &&& Int64.toUInt64 63)).toInt64) &&& (6148914691236517205 : Int64))).toUInt64 >>> ((2 : Int32).toInt64.toUInt64 &&& Int64.toUInt64 63)).toInt64) &&& (3689348814741910323 : Int64))) + (((((a - (((a.toUInt64 >>> ((1 : Int32).toInt64.toUInt64 &&& Int64.toUInt64 63)).toInt64) &&& (6148914691236517205 : Int64))) &&& (3689348814741910323 : Int64)) + ((((a - (((a.toUInt64 >>> ((1 : Int32).toInt64.toUInt64 &&& Int64.toUInt64 63)).toInt64) &&& (6148914691236517205 : Int64))).toUInt64 >>> ((2 : Int32).toInt64.toUInt64 &&& Int64.toUInt64 63)).toInt64) &&& (3689348814741910323 : Int64))).toUInt64 >>> ((4 : Int32).toInt64.toUInt64 &&& Int64.toUInt64 63)).toInt64)) &&& (1085102592571150095 : Int64)) + (((((((a - (((a.toUInt64 >>> ((1 : Int32).toInt64.toUInt64 &&& Int64.toUInt64 63)).toInt64) &&& (6148914691236517205 : Int64))) &&& (3689348814741910323 : Int64)) + ((((a - (((a.toUInt64 >>> ((1 : Int32).toInt64.toUInt64 &&& Int64.toUInt64 63)).toInt64) &&& (6148914691236517205 : Int64))).toUInt64 >>> ((2 : Int32).toInt64.toUInt64 &&& Int64.toUInt64 63)).toInt64) &&& (3689348814741910323 : Int64))) + (((((a - (((a.toUInt64 >>> ((1 : Int32).toInt64.toUInt64 &&& Int64.toUInt64 63)).toInt64) &&& (6148914691236517205 : Int64))) &&& (3689348814741910323 : Int64)) + ((((a - (((a.toUInt64 >>> ((1 : Int32).toInt64.toUInt64 &&& Int64.toUInt64 63)).toInt64) &&& (6148914691236517205 : Int64))).toUInt64 >>> ((2 : Int32).toInt64.toUInt64 &&& Int64.toUInt64 63)).toInt64) &&& (3689348814741910323 : Int64))).toUInt64 >>> ((4 : Int32).toInt64.toUInt64 &&& Int64.toUInt64 63)).toInt64)) &&& (1085102592571150095 : Int64)).toUInt64 >>> ((8 : Int32).toInt64.toUInt64 &&& Int64.toUInt64 63)).toInt64)))]) hx hb dJ13_bitCount_95d88_40 rfl hl (by decide) rfl (fun ls hl => ?_)
  refine lv_lload_n hx hb dJ13_bitCount_95d88_41 rfl (lv_at hl 0 rfl) ?_
  refine lv_lload_n hx hb dJ13_bitCount_95d88_42 rfl (lv_at hl 0 rfl) ?_
  refine lv_bipush (v := (16 : Int32)) hx hb dJ13_bitCount_95d88_43 (by decide) ?_
  refine lv_lushr hx hb dJ13_bitCount_95d88_45 rfl ?_
  refine lv_ladd hx hb dJ13_bitCount_95d88_46 ?_
  refine lv_lstore_n (lv' := [(0, .long (((((((a - (((a.toUInt64 >>> ((1 : Int32).toInt64.toUInt64 &&& Int64.toUInt64 63)).toInt64) &&& (6148914691236517205 : Int64))) &&& (3689348814741910323 : Int64)) + ((((a - (((a.toUInt64 >>> ((1 : Int32).toInt64.toUInt64 &&& Int64.toUInt64 63)).toInt64) &&& (6148914691236517205 : Int64))).toUInt64 >>> ((2 : Int32).toInt64.toUInt64 &&& Int64.toUInt64 63)).toInt64) &&& (3689348814741910323 : Int64))) + (((((a - (((a.toUInt64 >>> ((1 : Int32).toInt64.toUInt64 &&& Int64.toUInt64 63)).toInt64) &&& (6148914691236517205 : Int64))) &&& (3689348814741910323 : Int64)) + ((((a - (((a.toUInt64 >>> ((1 : Int32).toInt64.toUInt64 &&& Int64.toUInt64 63)).toInt64) &&& (6148914691236517205 : Int64))).toUInt64 >>> ((2 : Int32).toInt64.toUInt64 &&& Int64.toUInt64 63)).toInt64) &&& (3689348814741910323 : Int64))).toUInt64 >>> ((4 : Int32).toInt64.toUInt64 &&& Int64.toUInt64 63)).toInt64)) &&& (1085102592571150095 : Int64)) + (((((((a - (((a.toUInt64 >>> ((1 : Int32).toInt64.toUInt64 &&& Int64.toUInt64 63)).toInt64) &&& (6148914691236517205 : Int64))) &&& (3689348814741910323 : Int64)) + ((((a - (((a.toUInt64 >>> ((1 : Int32).toInt64.toUInt64 &&& Int64.toUInt64 63)).toInt64) &&& (6148914691236517205 : Int64))).toUInt64 >>> ((2 : Int32).toInt64.toUInt64 &&& Int64.toUInt64 63)).toInt64) &&& (3689348814741910323 : Int64))) + (((((a - (((a.toUInt64 >>> ((1 : Int32).toInt64.toUInt64 &&& Int64.toUInt64 63)).toInt64) &&& (6148914691236517205 : Int64))) &&& (3689348814741910323 : Int64)) + ((((a - (((a.toUInt64 >>> ((1 : Int32).toInt64.toUInt64 &&& Int64.toUInt64 63)).toInt64) &&& (6148914691236517205 : Int64))).toUInt64 >>> ((2 : Int32).toInt64.toUInt64 &&& Int64.toUInt64 63)).toInt64) &&& (3689348814741910323 : Int64))).toUInt64 >>> ((4 : Int32).toInt64.toUInt64 &&& Int64.toUInt64 63)).toInt64)) &&& (1085102592571150095 : Int64)).toUInt64 >>> ((8 : Int32).toInt64.toUInt64 &&& Int64.toUInt64 63)).toInt64)) + ((((((((a - (((a.toUInt64 >>> ((1 : Int32).toInt64.toUInt64 &&& Int64.toUInt64 63)).toInt64) &&& (6148914691236517205 : Int64))) &&& (3689348814741910323 : Int64)) + ((((a - (((a.toUInt64 >>> ((1 : Int32).toInt64.toUInt64 &&& Int64.toUInt64 63)).toInt64) &&& (6148914691236517205 : Int64))).toUInt64 >>> ((2 : Int32).toInt64.toUInt64 &&& Int64.toUInt64 63)).toInt64) &&& (3689348814741910323 : Int64))) + (((((a - (((a.toUInt64 >>> ((1 : Int32).toInt64.toUInt64 &&& Int64.toUInt64 63)).toInt64) &&& (6148914691236517205 : Int64))) &&& (3689348814741910323 : Int64)) + ((((a - (((a.toUInt64 >>> ((1 : Int32).toInt64.toUInt64 &&& Int64.toUInt64 63)).toInt64) &&& (6148914691236517205 : Int64))).toUInt64 >>> ((2 : Int32).toInt64.toUInt64 &&& Int64.toUInt64 63)).toInt64) &&& (3689348814741910323 : Int64))).toUInt64 >>> ((4 : Int32).toInt64.toUInt64 &&& Int64.toUInt64 63)).toInt64)) &&& (1085102592571150095 : Int64)) + (((((((a - (((a.toUInt64 >>> ((1 : Int32).toInt64.toUInt64 &&& Int64.toUInt64 63)).toInt64) &&& (6148914691236517205 : Int64))) &&& (3689348814741910323 : Int64)) + ((((a - (((a.toUInt64 >>> ((1 : Int32).toInt64.toUInt64 &&& Int64.toUInt64 63)).toInt64) &&& (6148914691236517205 : Int64))).toUInt64 >>> ((2 : Int32).toInt64.toUInt64 &&& Int64.toUInt64 63)).toInt64) &&& (3689348814741910323 : Int64))) + (((((a - (((a.toUInt64 >>> ((1 : Int32).toInt64.toUInt64 &&& Int64.toUInt64 63)).toInt64) &&& (6148914691236517205 : Int64))) &&& (3689348814741910323 : Int64)) + ((((a - (((a.toUInt64 >>> ((1 : Int32).toInt64.toUInt64 &&& Int64.toUInt64 63)).toInt64) &&& (6148914691236517205 : Int64))).toUInt64 >>> ((2 : Int32).toInt64.toUInt64 &&& Int64.toUInt64 63)).toInt64) &&& (3689348814741910323 : Int64))).toUInt64 >>> ((4 : Int32).toInt64.toUInt64 &&& Int64.toUInt64 63)).toInt64)) &&& (1085102592571150095 : Int64)).toUInt64 >>> ((8 : Int32).toInt64.toUInt64 &&& Int64.toUInt64 63)).toInt64)).toUInt64 >>> ((16 : Int32).toInt64.toUInt64 &&& Int64.toUInt64 63)).toInt64)))]) hx hb dJ13_bitCount_95d88_47 rfl hl (by decide) rfl (fun ls hl => ?_)
  refine lv_lload_n hx hb dJ13_bitCount_95d88_48 rfl (lv_at hl 0 rfl) ?_
  refine lv_lload_n hx hb dJ13_bitCount_95d88_49 rfl (lv_at hl 0 rfl) ?_
  refine lv_bipush (v := (32 : Int32)) hx hb dJ13_bitCount_95d88_50 (by decide) ?_
  refine lv_lushr hx hb dJ13_bitCount_95d88_52 rfl ?_
  refine lv_ladd hx hb dJ13_bitCount_95d88_53 ?_
  refine lv_lstore_n (lv' := [(0, .long ((((((((a - (((a.toUInt64 >>> ((1 : Int32).toInt64.toUInt64 &&& Int64.toUInt64 63)).toInt64) &&& (6148914691236517205 : Int64))) &&& (3689348814741910323 : Int64)) + ((((a - (((a.toUInt64 >>> ((1 : Int32).toInt64.toUInt64 &&& Int64.toUInt64 63)).toInt64) &&& (6148914691236517205 : Int64))).toUInt64 >>> ((2 : Int32).toInt64.toUInt64 &&& Int64.toUInt64 63)).toInt64) &&& (3689348814741910323 : Int64))) + (((((a - (((a.toUInt64 >>> ((1 : Int32).toInt64.toUInt64 &&& Int64.toUInt64 63)).toInt64) &&& (6148914691236517205 : Int64))) &&& (3689348814741910323 : Int64)) + ((((a - (((a.toUInt64 >>> ((1 : Int32).toInt64.toUInt64 &&& Int64.toUInt64 63)).toInt64) &&& (6148914691236517205 : Int64))).toUInt64 >>> ((2 : Int32).toInt64.toUInt64 &&& Int64.toUInt64 63)).toInt64) &&& (3689348814741910323 : Int64))).toUInt64 >>> ((4 : Int32).toInt64.toUInt64 &&& Int64.toUInt64 63)).toInt64)) &&& (1085102592571150095 : Int64)) + (((((((a - (((a.toUInt64 >>> ((1 : Int32).toInt64.toUInt64 &&& Int64.toUInt64 63)).toInt64) &&& (6148914691236517205 : Int64))) &&& (3689348814741910323 : Int64)) + ((((a - (((a.toUInt64 >>> ((1 : Int32).toInt64.toUInt64 &&& Int64.toUInt64 63)).toInt64) &&& (6148914691236517205 : Int64))).toUInt64 >>> ((2 : Int32).toInt64.toUInt64 &&& Int64.toUInt64 63)).toInt64) &&& (3689348814741910323 : Int64))) + (((((a - (((a.toUInt64 >>> ((1 : Int32).toInt64.toUInt64 &&& Int64.toUInt64 63)).toInt64) &&& (6148914691236517205 : Int64))) &&& (3689348814741910323 : Int64)) + ((((a - (((a.toUInt64 >>> ((1 : Int32).toInt64.toUInt64 &&& Int64.toUInt64 63)).toInt64) &&& (6148914691236517205 : Int64))).toUInt64 >>> ((2 : Int32).toInt64.toUInt64 &&& Int64.toUInt64 63)).toInt64) &&& (3689348814741910323 : Int64))).toUInt64 >>> ((4 : Int32).toInt64.toUInt64 &&& Int64.toUInt64 63)).toInt64)) &&& (1085102592571150095 : Int64)).toUInt64 >>> ((8 : Int32).toInt64.toUInt64 &&& Int64.toUInt64 63)).toInt64)) + ((((((((a - (((a.toUInt64 >>> ((1 : Int32).toInt64.toUInt64 &&& Int64.toUInt64 63)).toInt64) &&& (6148914691236517205 : Int64))) &&& (3689348814741910323 : Int64)) + ((((a - (((a.toUInt64 >>> ((1 : Int32).toInt64.toUInt64 &&& Int64.toUInt64 63)).toInt64) &&& (6148914691236517205 : Int64))).toUInt64 >>> ((2 : Int32).toInt64.toUInt64 &&& Int64.toUInt64 63)).toInt64) &&& (3689348814741910323 : Int64))) + (((((a - (((a.toUInt64 >>> ((1 : Int32).toInt64.toUInt64 &&& Int64.toUInt64 63)).toInt64) &&& (6148914691236517205 : Int64))) &&& (3689348814741910323 : Int64)) + ((((a - (((a.toUInt64 >>> ((1 : Int32).toInt64.toUInt64 &&& Int64.toUInt64 63)).toInt64) &&& (6148914691236517205 : Int64))).toUInt64 >>> ((2 : Int32).toInt64.toUInt64 &&& Int64.toUInt64 63)).toInt64) &&& (3689348814741910323 : Int64))).toUInt64 >>> ((4 : Int32).toInt64.toUInt64 &&& Int64.toUInt64 63)).toInt64)) &&& (1085102592571150095 : Int64)) + (((((((a - (((a.toUInt64 >>> ((1 : Int32).toInt64.toUInt64 &&& Int64.toUInt64 63)).toInt64) &&& (6148914691236517205 : Int64))) &&& (3689348814741910323 : Int64)) + ((((a - (((a.toUInt64 >>> ((1 : Int32).toInt64.toUInt64 &&& Int64.toUInt64 63)).toInt64) &&& (6148914691236517205 : Int64))).toUInt64 >>> ((2 : Int32).toInt64.toUInt64 &&& Int64.toUInt64 63)).toInt64) &&& (3689348814741910323 : Int64))) + (((((a - (((a.toUInt64 >>> ((1 : Int32).toInt64.toUInt64 &&& Int64.toUInt64 63)).toInt64) &&& (6148914691236517205 : Int64))) &&& (3689348814741910323 : Int64)) + ((((a - (((a.toUInt64 >>> ((1 : Int32).toInt64.toUInt64 &&& Int64.toUInt64 63)).toInt64) &&& (6148914691236517205 : Int64))).toUInt64 >>> ((2 : Int32).toInt64.toUInt64 &&& Int64.toUInt64 63)).toInt64) &&& (3689348814741910323 : Int64))).toUInt64 >>> ((4 : Int32).toInt64.toUInt64 &&& Int64.toUInt64 63)).toInt64)) &&& (1085102592571150095 : Int64)).toUInt64 >>> ((8 : Int32).toInt64.toUInt64 &&& Int64.toUInt64 63)).toInt64)).toUInt64 >>> ((16 : Int32).toInt64.toUInt64 &&& Int64.toUInt64 63)).toInt64)) + (((((((((a - (((a.toUInt64 >>> ((1 : Int32).toInt64.toUInt64 &&& Int64.toUInt64 63)).toInt64) &&& (6148914691236517205 : Int64))) &&& (3689348814741910323 : Int64)) + ((((a - (((a.toUInt64 >>> ((1 : Int32).toInt64.toUInt64 &&& Int64.toUInt64 63)).toInt64) &&& (6148914691236517205 : Int64))).toUInt64 >>> ((2 : Int32).toInt64.toUInt64 &&& Int64.toUInt64 63)).toInt64) &&& (3689348814741910323 : Int64))) + (((((a - (((a.toUInt64 >>> ((1 : Int32).toInt64.toUInt64 &&& Int64.toUInt64 63)).toInt64) &&& (6148914691236517205 : Int64))) &&& (3689348814741910323 : Int64)) + ((((a - (((a.toUInt64 >>> ((1 : Int32).toInt64.toUInt64 &&& Int64.toUInt64 63)).toInt64) &&& (6148914691236517205 : Int64))).toUInt64 >>> ((2 : Int32).toInt64.toUInt64 &&& Int64.toUInt64 63)).toInt64) &&& (3689348814741910323 : Int64))).toUInt64 >>> ((4 : Int32).toInt64.toUInt64 &&& Int64.toUInt64 63)).toInt64)) &&& (1085102592571150095 : Int64)) + (((((((a - (((a.toUInt64 >>> ((1 : Int32).toInt64.toUInt64 &&& Int64.toUInt64 63)).toInt64) &&& (6148914691236517205 : Int64))) &&& (3689348814741910323 : Int64)) + ((((a - (((a.toUInt64 >>> ((1 : Int32).toInt64.toUInt64 &&& Int64.toUInt64 63)).toInt64) &&& (6148914691236517205 : Int64))).toUInt64 >>> ((2 : Int32).toInt64.toUInt64 &&& Int64.toUInt64 63)).toInt64) &&& (3689348814741910323 : Int64))) + (((((a - (((a.toUInt64 >>> ((1 : Int32).toInt64.toUInt64 &&& Int64.toUInt64 63)).toInt64) &&& (6148914691236517205 : Int64))) &&& (3689348814741910323 : Int64)) + ((((a - (((a.toUInt64 >>> ((1 : Int32).toInt64.toUInt64 &&& Int64.toUInt64 63)).toInt64) &&& (6148914691236517205 : Int64))).toUInt64 >>> ((2 : Int32).toInt64.toUInt64 &&& Int64.toUInt64 63)).toInt64) &&& (3689348814741910323 : Int64))).toUInt64 >>> ((4 : Int32).toInt64.toUInt64 &&& Int64.toUInt64 63)).toInt64)) &&& (1085102592571150095 : Int64)).toUInt64 >>> ((8 : Int32).toInt64.toUInt64 &&& Int64.toUInt64 63)).toInt64)) + ((((((((a - (((a.toUInt64 >>> ((1 : Int32).toInt64.toUInt64 &&& Int64.toUInt64 63)).toInt64) &&& (6148914691236517205 : Int64))) &&& (3689348814741910323 : Int64)) + ((((a - (((a.toUInt64 >>> ((1 : Int32).toInt64.toUInt64 &&& Int64.toUInt64 63)).toInt64) &&& (6148914691236517205 : Int64))).toUInt64 >>> ((2 : Int32).toInt64.toUInt64 &&& Int64.toUInt64 63)).toInt64) &&& (3689348814741910323 : Int64))) + (((((a - (((a.toUInt64 >>> ((1 : Int32).toInt64.toUInt64 &&& Int64.toUInt64 63)).toInt64) &&& (6148914691236517205 : Int64))) &&& (3689348814741910323 : Int64)) + ((((a - (((a.toUInt64 >>> ((1 : Int32).toInt64.toUInt64 &&& Int64.toUInt64 63)).toInt64) &&& (6148914691236517205 : Int64))).toUInt64 >>> ((2 : Int32).toInt64.toUInt64 &&& Int64.toUInt64 63)).toInt64) &&& (3689348814741910323 : Int64))).toUInt64 >>> ((4 : Int32).toInt64.toUInt64 &&& Int64.toUInt64 63)).toInt64)) &&& (1085102592571150095 : Int64)) + (((((((a - (((a.toUInt64 >>> ((1 : Int32).toInt64.toUInt64 &&& Int64.toUInt64 63)).toInt64) &&& (6148914691236517205 : Int64))) &&& (3689348814741910323 : Int64)) + ((((a - (((a.toUInt64 >>> ((1 : Int32).toInt64.toUInt64 &&& Int64.toUInt64 63)).toInt64) &&& (6148914691236517205 : Int64))).toUInt64 >>> ((2 : Int32).toInt64.toUInt64 &&& Int64.toUInt64 63)).toInt64) &&& (3689348814741910323 : Int64))) + (((((a - (((a.toUInt64 >>> ((1 : Int32).toInt64.toUInt64 &&& Int64.toUInt64 63)).toInt64) &&& (6148914691236517205 : Int64))) &&& (3689348814741910323 : Int64)) + ((((a - (((a.toUInt64 >>> ((1 : Int32).toInt64.toUInt64 &&& Int64.toUInt64 63)).toInt64) &&& (6148914691236517205 : Int64))).toUInt64 >>> ((2 : Int32).toInt64.toUInt64 &&& Int64.toUInt64 63)).toInt64) &&& (3689348814741910323 : Int64))).toUInt64 >>> ((4 : Int32).toInt64.toUInt64 &&& Int64.toUInt64 63)).toInt64)) &&& (1085102592571150095 : Int64)).toUInt64 >>> ((8 : Int32).toInt64.toUInt64 &&& Int64.toUInt64 63)).toInt64)).toUInt64 >>> ((16 : Int32).toInt64.toUInt64 &&& Int64.toUInt64 63)).toInt64)).toUInt64 >>> ((32 : Int32).toInt64.toUInt64 &&& Int64.toUInt64 63)).toInt64)))]) hx hb dJ13_bitCount_95d88_54 rfl hl (by decide) rfl (fun ls hl => ?_)
  refine lv_lload_n hx hb dJ13_bitCount_95d88_55 rfl (lv_at hl 0 rfl) ?_
  refine lv_l2i hx hb dJ13_bitCount_95d88_56 rfl ?_
  refine lv_bipush (v := (127 : Int32)) hx hb dJ13_bitCount_95d88_57 (by decide) ?_
  refine lv_iand hx hb dJ13_bitCount_95d88_59 ?_
  have e9 : (F_J13_bitCount_95d88 a ) = (((((((((a - (((a.toUInt64 >>> ((1 : Int32).toInt64.toUInt64 &&& Int64.toUInt64 63)).toInt64) &&& (6148914691236517205 : Int64))) &&& (3689348814741910323 : Int64)) + ((((a - (((a.toUInt64 >>> ((1 : Int32).toInt64.toUInt64 &&& Int64.toUInt64 63)).toInt64) &&& (6148914691236517205 : Int64))).toUInt64 >>> ((2 : Int32).toInt64.toUInt64 &&& Int64.toUInt64 63)).toInt64) &&& (3689348814741910323 : Int64))) + (((((a - (((a.toUInt64 >>> ((1 : Int32).toInt64.toUInt64 &&& Int64.toUInt64 63)).toInt64) &&& (6148914691236517205 : Int64))) &&& (3689348814741910323 : Int64)) + ((((a - (((a.toUInt64 >>> ((1 : Int32).toInt64.toUInt64 &&& Int64.toUInt64 63)).toInt64) &&& (6148914691236517205 : Int64))).toUInt64 >>> ((2 : Int32).toInt64.toUInt64 &&& Int64.toUInt64 63)).toInt64) &&& (3689348814741910323 : Int64))).toUInt64 >>> ((4 : Int32).toInt64.toUInt64 &&& Int64.toUInt64 63)).toInt64)) &&& (1085102592571150095 : Int64)) + (((((((a - (((a.toUInt64 >>> ((1 : Int32).toInt64.toUInt64 &&& Int64.toUInt64 63)).toInt64) &&& (6148914691236517205 : Int64))) &&& (3689348814741910323 : Int64)) + ((((a - (((a.toUInt64 >>> ((1 : Int32).toInt64.toUInt64 &&& Int64.toUInt64 63)).toInt64) &&& (6148914691236517205 : Int64))).toUInt64 >>> ((2 : Int32).toInt64.toUInt64 &&& Int64.toUInt64 63)).toInt64) &&& (3689348814741910323 : Int64))) + (((((a - (((a.toUInt64 >>> ((1 : Int32).toInt64.toUInt64 &&& Int64.toUInt64 63)).toInt64) &&& (6148914691236517205 : Int64))) &&& (3689348814741910323 : Int64)) + ((((a - (((a.toUInt64 >>> ((1 : Int32).toInt64.toUInt64 &&& Int64.toUInt64 63)).toInt64) &&& (6148914691236517205 : Int64))).toUInt64 >>> ((2 : Int32).toInt64.toUInt64 &&& Int64.toUInt64 63)).toInt64) &&& (3689348814741910323 : Int64))).toUInt64 >>> ((4 : Int32).toInt64.toUInt64 &&& Int64.toUInt64 63)).toInt64)) &&& (1085102592571150095 : Int64)).toUInt64 >>> ((8 : Int32).toInt64.toUInt64 &&& Int64.toUInt64 63)).toInt64)) + ((((((((a - (((a.toUInt64 >>> ((1 : Int32).toInt64.toUInt64 &&& Int64.toUInt64 63)).toInt64) &&& (6148914691236517205 : Int64))) &&& (3689348814741910323 : Int64)) + ((((a - (((a.toUInt64 >>> ((1 : Int32).toInt64.toUInt64 &&& Int64.toUInt64 63)).toInt64) &&& (6148914691236517205 : Int64))).toUInt64 >>> ((2 : Int32).toInt64.toUInt64 &&& Int64.toUInt64 63)).toInt64) &&& (3689348814741910323 : Int64))) + (((((a - (((a.toUInt64 >>> ((1 : Int32).toInt64.toUInt64 &&& Int64.toUInt64 63)).toInt64) &&& (6148914691236517205 : Int64))) &&& (3689348814741910323 : Int64)) + ((((a - (((a.toUInt64 >>> ((1 : Int32).toInt64.toUInt64 &&& Int64.toUInt64 63)).toInt64) &&& (6148914691236517205 : Int64))).toUInt64 >>> ((2 : Int32).toInt64.toUInt64 &&& Int64.toUInt64 63)).toInt64) &&& (3689348814741910323 : Int64))).toUInt64 >>> ((4 : Int32).toInt64.toUInt64 &&& Int64.toUInt64 63)).toInt64)) &&& (1085102592571150095 : Int64)) + (((((((a - (((a.toUInt64 >>> ((1 : Int32).toInt64.toUInt64 &&& Int64.toUInt64 63)).toInt64) &&& (6148914691236517205 : Int64))) &&& (3689348814741910323 : Int64)) + ((((a - (((a.toUInt64 >>> ((1 : Int32).toInt64.toUInt64 &&& Int64.toUInt64 63)).toInt64) &&& (6148914691236517205 : Int64))).toUInt64 >>> ((2 : Int32).toInt64.toUInt64 &&& Int64.toUInt64 63)).toInt64) &&& (3689348814741910323 : Int64))) + (((((a - (((a.toUInt64 >>> ((1 : Int32).toInt64.toUInt64 &&& Int64.toUInt64 63)).toInt64) &&& (6148914691236517205 : Int64))) &&& (3689348814741910323 : Int64)) + ((((a - (((a.toUInt64 >>> ((1 : Int32).toInt64.toUInt64 &&& Int64.toUInt64 63)).toInt64) &&& (6148914691236517205 : Int64))).toUInt64 >>> ((2 : Int32).toInt64.toUInt64 &&& Int64.toUInt64 63)).toInt64) &&& (3689348814741910323 : Int64))).toUInt64 >>> ((4 : Int32).toInt64.toUInt64 &&& Int64.toUInt64 63)).toInt64)) &&& (1085102592571150095 : Int64)).toUInt64 >>> ((8 : Int32).toInt64.toUInt64 &&& Int64.toUInt64 63)).toInt64)).toUInt64 >>> ((16 : Int32).toInt64.toUInt64 &&& Int64.toUInt64 63)).toInt64)) + (((((((((a - (((a.toUInt64 >>> ((1 : Int32).toInt64.toUInt64 &&& Int64.toUInt64 63)).toInt64) &&& (6148914691236517205 : Int64))) &&& (3689348814741910323 : Int64)) + ((((a - (((a.toUInt64 >>> ((1 : Int32).toInt64.toUInt64 &&& Int64.toUInt64 63)).toInt64) &&& (6148914691236517205 : Int64))).toUInt64 >>> ((2 : Int32).toInt64.toUInt64 &&& Int64.toUInt64 63)).toInt64) &&& (3689348814741910323 : Int64))) + (((((a - (((a.toUInt64 >>> ((1 : Int32).toInt64.toUInt64 &&& Int64.toUInt64 63)).toInt64) &&& (6148914691236517205 : Int64))) &&& (3689348814741910323 : Int64)) + ((((a - (((a.toUInt64 >>> ((1 : Int32).toInt64.toUInt64 &&& Int64.toUInt64 63)).toInt64) &&& (6148914691236517205 : Int64))).toUInt64 >>> ((2 : Int32).toInt64.toUInt64 &&& Int64.toUInt64 63)).toInt64) &&& (3689348814741910323 : Int64))).toUInt64 >>> ((4 : Int32).toInt64.toUInt64 &&& Int64.toUInt64 63)).toInt64)) &&& (1085102592571150095 : Int64)) + (((((((a - (((a.toUInt64 >>> ((1 : Int32).toInt64.toUInt64 &&& Int64.toUInt64 63)).toInt64) &&& (6148914691236517205 : Int64))) &&& (3689348814741910323 : Int64)) + ((((a - (((a.toUInt64 >>> ((1 : Int32).toInt64.toUInt64 &&& Int64.toUInt64 63)).toInt64) &&& (6148914691236517205 : Int64))).toUInt64 >>> ((2 : Int32).toInt64.toUInt64 &&& Int64.toUInt64 63)).toInt64) &&& (3689348814741910323 : Int64))) + (((((a - (((a.toUInt64 >>> ((1 : Int32).toInt64.toUInt64 &&& Int64.toUInt64 63)).toInt64) &&& (6148914691236517205 : Int64))) &&& (3689348814741910323 : Int64)) + ((((a - (((a.toUInt64 >>> ((1 : Int32).toInt64.toUInt64 &&& Int64.toUInt64 63)).toInt64) &&& (6148914691236517205 : Int64))).toUInt64 >>> ((2 : Int32).toInt64.toUInt64 &&& Int64.toUInt64 63)).toInt64) &&& (3689348814741910323 : Int64))).toUInt64 >>> ((4 : Int32).toInt64.toUInt64 &&& Int64.toUInt64 63)).toInt64)) &&& (1085102592571150095 : Int64)).toUInt64 >>> ((8 : Int32).toInt64.toUInt64 &&& Int64.toUInt64 63)).toInt64)) + ((((((((a - (((a.toUInt64 >>> ((1 : Int32).toInt64.toUInt64 &&& Int64.toUInt64 63)).toInt64) &&& (6148914691236517205 : Int64))) &&& (3689348814741910323 : Int64)) + ((((a - (((a.toUInt64 >>> ((1 : Int32).toInt64.toUInt64 &&& Int64.toUInt64 63)).toInt64) &&& (6148914691236517205 : Int64))).toUInt64 >>> ((2 : Int32).toInt64.toUInt64 &&& Int64.toUInt64 63)).toInt64) &&& (3689348814741910323 : Int64))) + (((((a - (((a.toUInt64 >>> ((1 : Int32).toInt64.toUInt64 &&& Int64.toUInt64 63)).toInt64) &&& (6148914691236517205 : Int64))) &&& (3689348814741910323 : Int64)) + ((((a - (((a.toUInt64 >>> ((1 : Int32).toInt64.toUInt64 &&& Int64.toUInt64 63)).toInt64) &&& (6148914691236517205 : Int64))).toUInt64 >>> ((2 : Int32).toInt64.toUInt64 &&& Int64.toUInt64 63)).toInt64) &&& (3689348814741910323 : Int64))).toUInt64 >>> ((4 : Int32).toInt64.toUInt64 &&& Int64.toUInt64 63)).toInt64)) &&& (1085102592571150095 : Int64)) + (((((((a - (((a.toUInt64 >>> ((1 : Int32).toInt64.toUInt64 &&& Int64.toUInt64 63)).toInt64) &&& (6148914691236517205 : Int64))) &&& (3689348814741910323 : Int64)) + ((((a - (((a.toUInt64 >>> ((1 : Int32).toInt64.toUInt64 &&& Int64.toUInt64 63)).toInt64) &&& (6148914691236517205 : Int64))).toUInt64 >>> ((2 : Int32).toInt64.toUInt64 &&& Int64.toUInt64 63)).toInt64) &&& (3689348814741910323 : Int64))) + (((((a - (((a.toUInt64 >>> ((1 : Int32).toInt64.toUInt64 &&& Int64.toUInt64 63)).toInt64) &&& (6148914691236517205 : Int64))) &&& (3689348814741910323 : Int64)) + ((((a - (((a.toUInt64 >>> ((1 : Int32).toInt64.toUInt64 &&& Int64.toUInt64 63)).toInt64) &&& (6148914691236517205 : Int64))).toUInt64 >>> ((2 : Int32).toInt64.toUInt64 &&& Int64.toUInt64 63)).toInt64) &&& (3689348814741910323 : Int64))).toUInt64 >>> ((4 : Int32).toInt64.toUInt64 &&& Int64.toUInt64 63)).toInt64)) &&& (1085102592571150095 : Int64)).toUInt64 >>> ((8 : Int32).toInt64.toUInt64 &&& Int64.toUInt64 63)).toInt64)).toUInt64 >>> ((16 : Int32).toInt64.toUInt64 &&& Int64.toUInt64 63)).toInt64)).toUInt64 >>> ((32 : Int32).toInt64.toUInt64 &&& Int64.toUInt64 63)).toInt64)).toInt32 &&& (127 : Int32)) := by rw [F_J13_bitCount_95d88]
  rw [e9] at hV
  subst hV
  exact roRetI C0 rfl dJ13_bitCount_95d88_60
theorem c_J13_bitCount_95d88 (l : Launch) (dC : Nat → ClassId) (dI : Nat → Nat → Nat) (cI cJ : ClassId) (a : Int64) : RoI l yJ13_bitCount_95d88 wsJ13_bitCount_95d88 rm_J13_bitCount_95d88 (dC, dI) [(cI, .int), (cJ, .long)] [] [.long a] (F_J13_bitCount_95d88 a ) := by
  refine RoI.mk (cc := cJ13_bitCount_95d88) (nL := 2) (ret := (some .int)) [(0, .long a)] (by decide) rfl (Nat.le_of_ble_eq_true rfl) rfl ?_
  intro p e s m below meth c C0 hP hK ls hl
  exact w_J13_bitCount_95d88 dC dI cI cJ a C0 hK hP rfl ls hl

-- X7_reachMemory
def F_X7_reachMemory (ad : Int32) (iop : Int32) (ii : Int32) (gv : Nat → Int64) (mw : Nat → Int64) : (Nat → Int64) × (Nat → Int64) :=
  (if (F_X1_loads iop ii) = 0 then (if (F_X1_stores iop ii) = 0 then (gv, mw) else (gv, (F_X3_store ad (F_X6_x (F_X1_i ii) gv) mw))) else ((F_X6_set (F_X1_i ii) (F_X3_load ad mw) gv), mw))
abbrev rm_X7_reachMemory : Room := { frames := 2, cells := 0, slots := 0, locals := 43 }
set_option maxRecDepth 20000 in
theorem mm_X7_reachMemory_iX1 : Cond.initialized RX1 ∈ wsX7_reachMemory := by decide +kernel
set_option maxRecDepth 20000 in
theorem mm_X7_reachMemory_iX3 : Cond.initialized RX3 ∈ wsX7_reachMemory := by decide +kernel
set_option maxRecDepth 20000 in
theorem mm_X7_reachMemory_iX6 : Cond.initialized RX6 ∈ wsX7_reachMemory := by decide +kernel
set_option maxRecDepth 20000 in
theorem mm_X7_reachMemory_l108 : Cond.methodLink RX7 108 yX1_loads ∈ wsX7_reachMemory := by decide +kernel
set_option maxRecDepth 20000 in
theorem mm_X7_reachMemory_l112 : Cond.methodLink RX7 112 yX3_load ∈ wsX7_reachMemory := by decide +kernel
set_option maxRecDepth 20000 in
theorem mm_X7_reachMemory_l117 : Cond.methodLink RX7 117 yX1_stores ∈ wsX7_reachMemory := by decide +kernel
set_option maxRecDepth 20000 in
theorem mm_X7_reachMemory_l120 : Cond.methodLink RX7 120 yX3_store ∈ wsX7_reachMemory := by decide +kernel
set_option maxRecDepth 20000 in
theorem mm_X7_reachMemory_l15 : Cond.methodLink RX7 15 yX1_i ∈ wsX7_reachMemory := by decide +kernel
set_option maxRecDepth 20000 in
theorem mm_X7_reachMemory_l24 : Cond.methodLink RX7 24 yX6_x ∈ wsX7_reachMemory := by decide +kernel
set_option maxRecDepth 20000 in
theorem mm_X7_reachMemory_l39 : Cond.methodLink RX7 39 yX6_set ∈ wsX7_reachMemory := by decide +kernel
set_option maxRecDepth 20000 in
theorem mm_X7_reachMemory_nX1_i : Cond.instanceMethod yX1_i ∈ wsX7_reachMemory := by decide +kernel
set_option maxRecDepth 20000 in
theorem mm_X7_reachMemory_nX1_loads : Cond.instanceMethod yX1_loads ∈ wsX7_reachMemory := by decide +kernel
set_option maxRecDepth 20000 in
theorem mm_X7_reachMemory_nX1_stores : Cond.instanceMethod yX1_stores ∈ wsX7_reachMemory := by decide +kernel
set_option maxRecDepth 20000 in
theorem mm_X7_reachMemory_nX3_load : Cond.instanceMethod yX3_load ∈ wsX7_reachMemory := by decide +kernel
set_option maxRecDepth 20000 in
theorem mm_X7_reachMemory_nX3_store : Cond.instanceMethod yX3_store ∈ wsX7_reachMemory := by decide +kernel
set_option maxRecDepth 20000 in
theorem mm_X7_reachMemory_nX6_set : Cond.instanceMethod yX6_set ∈ wsX7_reachMemory := by decide +kernel
set_option maxRecDepth 20000 in
theorem mm_X7_reachMemory_nX6_x : Cond.instanceMethod yX6_x ∈ wsX7_reachMemory := by decide +kernel
set_option maxRecDepth 20000 in
theorem mm_X7_reachMemory_sX1_i : Cond.selects RX1 yX1_i yX1_i ∈ wsX7_reachMemory := by decide +kernel
set_option maxRecDepth 20000 in
theorem mm_X7_reachMemory_sX1_loads : Cond.selects RX1 yX1_loads yX1_loads ∈ wsX7_reachMemory := by decide +kernel
set_option maxRecDepth 20000 in
theorem mm_X7_reachMemory_sX1_stores : Cond.selects RX1 yX1_stores yX1_stores ∈ wsX7_reachMemory := by decide +kernel
set_option maxRecDepth 20000 in
theorem mm_X7_reachMemory_sX3_load : Cond.selects RX3 yX3_load yX3_load ∈ wsX7_reachMemory := by decide +kernel
set_option maxRecDepth 20000 in
theorem mm_X7_reachMemory_sX3_store : Cond.selects RX3 yX3_store yX3_store ∈ wsX7_reachMemory := by decide +kernel
set_option maxRecDepth 20000 in
theorem mm_X7_reachMemory_sX6_set : Cond.selects RX6 yX6_set yX6_set ∈ wsX7_reachMemory := by decide +kernel
set_option maxRecDepth 20000 in
theorem mm_X7_reachMemory_sX6_x : Cond.selects RX6 yX6_x yX6_x ∈ wsX7_reachMemory := by decide +kernel
set_option maxHeartbeats 4000000 in
set_option maxRecDepth 100000 in
theorem w_X7_reachMemory {p : Program} {l : Launch} {e : Env} {s : State} {m : MethodId} {below : List Frame} {meth : Method} {c : Code} {args : Array Value} (dC : Nat → ClassId) (dI : Nat → Nat → Nat) (cI cJ : ClassId) (hI hG g1 hM m1 hN hR m2 : Nat) (ad : Int32) (iop : Int32) (ii : Int32) (ij : Int32) (ik : Int32) (ic : Int32) (ip : Int32) (iu : Int32) (gv : Nat → Int64) (mw : Nat → Int64) {w0 : va_W} (C0 : Cx p s m meth c cX7_reachMemory 4 none wsX7_reachMemory RX7 args) (hK : va_K (dC, dI) vwCl [(cI, .int), (cJ, .long)] s) (hZ : Zs false (va_A w0 s.heap.size) s s.heap) (hi : R8 ii) (hj : R8 ij) (hk : R8 ik) {V : (Nat → Int64) × (Nat → Int64)} (hV : (F_X7_reachMemory ad iop ii gv mw ) = V) (ls : Array Slot) (hl : lv_has ls 4 [(0, .ref hI), (1, .int ad), (2, .ref hG), (3, .ref hM)]) {H : Heap} {locs : List Loc} (hP : va_P (dC, dI) vwCl [(hI, .inr (1, [.int iop, .int ii, .int ij, .int ik, .int ic, .int ip, .int iu, .ref hN, .ref hR])), (hG, .inr (4, [.ref g1])), (g1, .inl (cJ, 24, .inr (.inl gv))), (hM, .inr (2, [.ref m1, .ref m2])), (m1, .inl (cJ, 512, .inr (.inl mw)))] H) (hD : va_D (va_A w0 s.heap.size) [(hI, .inr (1, [.int iop, .int ii, .int ij, .int ik, .int ic, .int ip, .int iu, .ref hN, .ref hR])), (hG, .inr (4, [.ref g1])), (g1, .inl (cJ, 24, .inr (.inl gv))), (hM, .inr (2, [.ref m1, .ref m2])), (m1, .inl (cJ, 512, .inr (.inl mw)))]) (hS : va_S (va_A w0 s.heap.size) s.heap H locs) : W p l e rm_X7_reachMemory s m args below meth c H locs 0 0 (MQ below (QV (dC, dI) [(cI, .int), (cJ, .long)] w0 [(hI, .inr (1, [.int iop, .int ii, .int ij, .int ik, .int ic, .int ip, .int iu, .ref hN, .ref hR])), (hG, .inr (4, [.ref g1])), (g1, .inl (cJ, 24, .inr (.inl V.1))), (hM, .inr (2, [.ref m1, .ref m2])), (m1, .inl (cJ, 512, .inr (.inl V.2)))] s.heap.size) args s 0 0 (va_A w0 s.heap.size)) (F0 m 0 ls []) := by
  obtain ⟨hx, hb, hr, hlk, hml, hown, hts⟩ := id C0
  have hA : ∀ q : Nat, s.heap.size ≤ q → va_A w0 s.heap.size q := fun q h => Or.inr h
  refine lv_aload_n hx hb dX7_reachMemory_0 rfl (lv_at hl 0 rfl) ?_
  refine roVi (As := []) (rest := []) (bytes := cX1_loads) (maxL := 1) (rty := (some .boolean)) (n := 0) (ci := 1) C0 (c_X1_loads l dC dI cI cJ hI hN hR iop ii ij ik ic ip iu) ⟨rfl, rfl, rfl, by decide +kernel, by decide, by decide⟩ ggX7_reachMemory_X1_loads mm_X7_reachMemory_iX1 mm_X7_reachMemory_l108 mm_X7_reachMemory_nX1_loads mm_X7_reachMemory_sX1_loads rfl rfl (hP.sub (ws' := [(hI, .inr (1, [.int iop, .int ii, .int ij, .int ik, .int ic, .int ip, .int iu, .ref hN, .ref hR]))]) [0] rfl) hK hl.1 rfl rfl (Nat.le_of_ble_eq_true rfl) dX7_reachMemory_1 ⟨Nat.zero_le _, Nat.zero_le _⟩ ?_
  refine lv_if_eq (x := (F_X1_loads iop ii)) (tgt := 23) hx hb dX7_reachMemory_4 (by decide) (fun c1 => ?_) (fun c1 => ?_)
  · refine lv_aload_n hx hb dX7_reachMemory_23 rfl (lv_at hl 0 rfl) ?_
    refine roVi (As := []) (rest := []) (bytes := cX1_stores) (maxL := 1) (rty := (some .boolean)) (n := 0) (ci := 1) C0 (c_X1_stores l dC dI cI cJ hI hN hR iop ii ij ik ic ip iu) ⟨rfl, rfl, rfl, by decide +kernel, by decide, by decide⟩ ggX7_reachMemory_X1_stores mm_X7_reachMemory_iX1 mm_X7_reachMemory_l117 mm_X7_reachMemory_nX1_stores mm_X7_reachMemory_sX1_stores rfl rfl (hP.sub (ws' := [(hI, .inr (1, [.int iop, .int ii, .int ij, .int ik, .int ic, .int ip, .int iu, .ref hN, .ref hR]))]) [0] rfl) hK hl.1 rfl rfl (Nat.le_of_ble_eq_true rfl) dX7_reachMemory_24 ⟨Nat.zero_le _, Nat.zero_le _⟩ ?_
    refine lv_if_eq (x := (F_X1_stores iop ii)) (tgt := 43) hx hb dX7_reachMemory_27 (by decide) (fun c2 => ?_) (fun c2 => ?_)
    · have e9 : (F_X7_reachMemory ad iop ii gv mw ) = (gv, mw) := by rw [F_X7_reachMemory, if_pos c1, if_pos c2]
      rw [e9] at hV
      subst hV
      exact wrRetV C0 hK hP hD hS dX7_reachMemory_43
    · refine lv_aload_n hx hb dX7_reachMemory_30 rfl (lv_at hl 3 rfl) ?_
      refine lv_iload_n hx hb dX7_reachMemory_31 rfl (lv_at hl 1 rfl) ?_
      refine lv_aload_n hx hb dX7_reachMemory_32 rfl (lv_at hl 2 rfl) ?_
      refine lv_aload_n hx hb dX7_reachMemory_33 rfl (lv_at hl 0 rfl) ?_
      refine roVi (As := []) (rest := [.ref hG, .int ad, .ref hM]) (bytes := cX1_i) (maxL := 1) (rty := (some .int)) (n := 0) (ci := 1) C0 (c_X1_i l dC dI cI cJ hI hN hR iop ii ij ik ic ip iu) ⟨rfl, rfl, rfl, by decide +kernel, by decide, by decide⟩ ggX7_reachMemory_X1_i mm_X7_reachMemory_iX1 mm_X7_reachMemory_l15 mm_X7_reachMemory_nX1_i mm_X7_reachMemory_sX1_i rfl rfl (hP.sub (ws' := [(hI, .inr (1, [.int iop, .int ii, .int ij, .int ik, .int ic, .int ip, .int iu, .ref hN, .ref hR]))]) [0] rfl) hK hl.1 rfl rfl (Nat.le_of_ble_eq_true rfl) dX7_reachMemory_34 ⟨Nat.zero_le _, Nat.zero_le _⟩ ?_
      refine roVl (As := [.int (F_X1_i ii)]) (rest := [.int ad, .ref hM]) (bytes := cX6_x) (maxL := 2) (rty := (some .long)) (n := 1) (ci := 4) C0 (c_X6_x l dC dI cI cJ hG g1 (F_X1_i ii) gv (by first | exact R8.x hi | exact R8.x hj | exact R8.x hk | exact R8.b hi | exact R8.b hj | exact R8.b hk | exact R8.a hi | exact R8.a hj | exact R8.a hk)) ⟨rfl, rfl, rfl, by decide +kernel, by decide, by decide⟩ ggX7_reachMemory_X6_x mm_X7_reachMemory_iX6 mm_X7_reachMemory_l24 mm_X7_reachMemory_nX6_x mm_X7_reachMemory_sX6_x rfl rfl (hP.sub (ws' := [(hG, .inr (4, [.ref g1])), (g1, .inl (cJ, 24, .inr (.inl gv)))]) [1, 2] rfl) hK hl.1 rfl rfl (Nat.le_of_ble_eq_true rfl) dX7_reachMemory_37 ⟨Nat.zero_le _, Nat.zero_le _⟩ ?_
      refine wrVv (As := [.int ad, .long (F_X6_x (F_X1_i ii) gv)]) (rest := []) (bytes := cX3_store) (maxL := 4) (rty := none) (n := 2) (ci := 2) C0 (c_X3_store l dC dI cI cJ hM m1 m2 ad (F_X6_x (F_X1_i ii) gv) mw) ⟨rfl, rfl, rfl, by decide +kernel, by decide, by decide⟩ ggX7_reachMemory_X3_store mm_X7_reachMemory_iX3 mm_X7_reachMemory_l120 mm_X7_reachMemory_nX3_store mm_X7_reachMemory_sX3_store rfl rfl hP hD hK hS hA (Zs.no _ _ _) [3, 4] [0, 1, 2] [0, 1, 2, 3, 4] [(hI, .inr (1, [.int iop, .int ii, .int ij, .int ik, .int ic, .int ip, .int iu, .ref hN, .ref hR])), (hG, .inr (4, [.ref g1])), (g1, .inl (cJ, 24, .inr (.inl gv)))] [(hI, .inr (1, [.int iop, .int ii, .int ij, .int ik, .int ic, .int ip, .int iu, .ref hN, .ref hR])), (hG, .inr (4, [.ref g1])), (g1, .inl (cJ, 24, .inr (.inl gv))), (hM, .inr (2, [.ref m1, .ref m2])), (m1, .inl (cJ, 512, .inr (.inl (F_X3_store ad (F_X6_x (F_X1_i ii) gv) mw))))] rfl (by decide) (hP.sub (ws' := [(hM, .inr (2, [.ref m1, .ref m2])), (m1, .inl (cJ, 512, .inr (.inl mw)))]) [3, 4] rfl) rfl (by decide) (by decide) (by decide) rfl hl.1 rfl rfl (Nat.le_of_ble_eq_true rfl) dX7_reachMemory_40 ⟨Nat.zero_le _, Nat.zero_le _⟩ (fun H locs hP hD hS => ?_)
      have e9 : (F_X7_reachMemory ad iop ii gv mw ) = (gv, (F_X3_store ad (F_X6_x (F_X1_i ii) gv) mw)) := by rw [F_X7_reachMemory, if_pos c1, if_neg c2]
      rw [e9] at hV
      subst hV
      exact wrRetV C0 hK hP hD hS dX7_reachMemory_43
  · refine lv_aload_n hx hb dX7_reachMemory_7 rfl (lv_at hl 2 rfl) ?_
    refine lv_aload_n hx hb dX7_reachMemory_8 rfl (lv_at hl 0 rfl) ?_
    refine roVi (As := []) (rest := [.ref hG]) (bytes := cX1_i) (maxL := 1) (rty := (some .int)) (n := 0) (ci := 1) C0 (c_X1_i l dC dI cI cJ hI hN hR iop ii ij ik ic ip iu) ⟨rfl, rfl, rfl, by decide +kernel, by decide, by decide⟩ ggX7_reachMemory_X1_i mm_X7_reachMemory_iX1 mm_X7_reachMemory_l15 mm_X7_reachMemory_nX1_i mm_X7_reachMemory_sX1_i rfl rfl (hP.sub (ws' := [(hI, .inr (1, [.int iop, .int ii, .int ij, .int ik, .int ic, .int ip, .int iu, .ref hN, .ref hR]))]) [0] rfl) hK hl.1 rfl rfl (Nat.le_of_ble_eq_true rfl) dX7_reachMemory_9 ⟨Nat.zero_le _, Nat.zero_le _⟩ ?_
    refine lv_aload_n hx hb dX7_reachMemory_12 rfl (lv_at hl 3 rfl) ?_
    refine lv_iload_n hx hb dX7_reachMemory_13 rfl (lv_at hl 1 rfl) ?_
    refine roVl (As := [.int ad]) (rest := [.int (F_X1_i ii), .ref hG]) (bytes := cX3_load) (maxL := 2) (rty := (some .long)) (n := 1) (ci := 2) C0 (c_X3_load l dC dI cI cJ hM m1 m2 ad mw) ⟨rfl, rfl, rfl, by decide +kernel, by decide, by decide⟩ ggX7_reachMemory_X3_load mm_X7_reachMemory_iX3 mm_X7_reachMemory_l112 mm_X7_reachMemory_nX3_load mm_X7_reachMemory_sX3_load rfl rfl (hP.sub (ws' := [(hM, .inr (2, [.ref m1, .ref m2])), (m1, .inl (cJ, 512, .inr (.inl mw)))]) [3, 4] rfl) hK hl.1 rfl rfl (Nat.le_of_ble_eq_true rfl) dX7_reachMemory_14 ⟨Nat.zero_le _, Nat.zero_le _⟩ ?_
    refine wrVv (As := [.int (F_X1_i ii), .long (F_X3_load ad mw)]) (rest := []) (bytes := cX6_set) (maxL := 4) (rty := none) (n := 2) (ci := 4) C0 (c_X6_set l dC dI cI cJ hG g1 (F_X1_i ii) (F_X3_load ad mw) gv (by first | exact R8.x hi | exact R8.x hj | exact R8.x hk | exact R8.b hi | exact R8.b hj | exact R8.b hk | exact R8.a hi | exact R8.a hj | exact R8.a hk)) ⟨rfl, rfl, rfl, by decide +kernel, by decide, by decide⟩ ggX7_reachMemory_X6_set mm_X7_reachMemory_iX6 mm_X7_reachMemory_l39 mm_X7_reachMemory_nX6_set mm_X7_reachMemory_sX6_set rfl rfl hP hD hK hS hA (Zs.no _ _ _) [1, 2] [0, 3, 4] [0, 3, 4, 1, 2] [(hI, .inr (1, [.int iop, .int ii, .int ij, .int ik, .int ic, .int ip, .int iu, .ref hN, .ref hR])), (hM, .inr (2, [.ref m1, .ref m2])), (m1, .inl (cJ, 512, .inr (.inl mw)))] [(hI, .inr (1, [.int iop, .int ii, .int ij, .int ik, .int ic, .int ip, .int iu, .ref hN, .ref hR])), (hG, .inr (4, [.ref g1])), (g1, .inl (cJ, 24, .inr (.inl (F_X6_set (F_X1_i ii) (F_X3_load ad mw) gv)))), (hM, .inr (2, [.ref m1, .ref m2])), (m1, .inl (cJ, 512, .inr (.inl mw)))] rfl (by decide) (hP.sub (ws' := [(hG, .inr (4, [.ref g1])), (g1, .inl (cJ, 24, .inr (.inl gv)))]) [1, 2] rfl) rfl (by decide) (by decide) (by decide) rfl hl.1 rfl rfl (Nat.le_of_ble_eq_true rfl) dX7_reachMemory_17 ⟨Nat.zero_le _, Nat.zero_le _⟩ (fun H locs hP hD hS => ?_)
    refine lv_goto (tgt := 43) hx hb dX7_reachMemory_20 (by decide) ?_
    have e9 : (F_X7_reachMemory ad iop ii gv mw ) = ((F_X6_set (F_X1_i ii) (F_X3_load ad mw) gv), mw) := by rw [F_X7_reachMemory, if_neg c1]
    rw [e9] at hV
    subst hV
    exact wrRetV C0 hK hP hD hS dX7_reachMemory_43
theorem c_X7_reachMemory (l : Launch) (dC : Nat → ClassId) (dI : Nat → Nat → Nat) (cI cJ : ClassId) (hI hG g1 hM m1 hN hR m2 : Nat) (ad : Int32) (iop : Int32) (ii : Int32) (ij : Int32) (ik : Int32) (ic : Int32) (ip : Int32) (iu : Int32) (gv : Nat → Int64) (mw : Nat → Int64) (hi : R8 ii) (hj : R8 ij) (hk : R8 ik) : WrV false l yX7_reachMemory wsX7_reachMemory rm_X7_reachMemory (dC, dI) [(cI, .int), (cJ, .long)] [(hI, .inr (1, [.int iop, .int ii, .int ij, .int ik, .int ic, .int ip, .int iu, .ref hN, .ref hR])), (hG, .inr (4, [.ref g1])), (g1, .inl (cJ, 24, .inr (.inl gv))), (hM, .inr (2, [.ref m1, .ref m2])), (m1, .inl (cJ, 512, .inr (.inl mw)))] [(hI, .inr (1, [.int iop, .int ii, .int ij, .int ik, .int ic, .int ip, .int iu, .ref hN, .ref hR])), (hG, .inr (4, [.ref g1])), (g1, .inl (cJ, 24, .inr (.inl ((F_X7_reachMemory ad iop ii gv mw ).1)))), (hM, .inr (2, [.ref m1, .ref m2])), (m1, .inl (cJ, 512, .inr (.inl ((F_X7_reachMemory ad iop ii gv mw ).2))))] [.ref hI, .int ad, .ref hG, .ref hM] := by
  refine WrV.mk (cc := cX7_reachMemory) (nL := 4) (ret := none) [(0, .ref hI), (1, .int ad), (2, .ref hG), (3, .ref hM)] (by decide) rfl (Nat.le_of_ble_eq_true rfl) rfl ?_
  intro p e s m below meth c C0 hP hK hD hS hZ ls hl
  exact w_X7_reachMemory dC dI cI cJ hI hG g1 hM m1 hN hR m2 ad iop ii ij ik ic ip iu gv mw C0 hK hZ hi hj hk rfl ls hl hP hD hS

-- X7_applyAddress
def F_X7_applyAddress (iop : Int32) (ii : Int32) (ij : Int32) (ik : Int32) (ic : Int32) (gv : Nat → Int64) (mw : Nat → Int64) : (Nat → Int64) × (Nat → Int64) :=
  (if ((F_X1_op iop) >>> ((3 : Int32) &&& 31)) = (5 : Int32) then (((F_X7_reachMemory ((F_X7_shortSum iop ij ik ic gv).toInt32) iop ii (F_X6_set ((8 : Int32) + (F_X1_i ii)) (F_X7_shortSum iop ij ik ic gv) gv) mw).1), ((F_X7_reachMemory ((F_X7_shortSum iop ij ik ic gv).toInt32) iop ii (F_X6_set ((8 : Int32) + (F_X1_i ii)) (F_X7_shortSum iop ij ik ic gv) gv) mw).2)) else (if ((F_X1_op iop) >>> ((3 : Int32) &&& 31)) = (6 : Int32) then ((F_X6_set ((16 : Int32) + (F_X1_i ii)) (F_X7_shortSum iop ij ik ic gv) gv), mw) else ((F_X6_set (F_X1_i ii) (F_X4_extended (F_X7_shortSum iop ij ik ic gv)) gv), mw)))
abbrev rm_X7_applyAddress : Room := { frames := 3, cells := 0, slots := 0, locals := 82 }
set_option maxRecDepth 20000 in
theorem mm_X7_applyAddress_iX1 : Cond.initialized RX1 ∈ wsX7_applyAddress := by decide +kernel
set_option maxRecDepth 20000 in
theorem mm_X7_applyAddress_iX4 : Cond.initialized RX4 ∈ wsX7_applyAddress := by decide +kernel
set_option maxRecDepth 20000 in
theorem mm_X7_applyAddress_iX6 : Cond.initialized RX6 ∈ wsX7_applyAddress := by decide +kernel
set_option maxRecDepth 20000 in
theorem mm_X7_applyAddress_iX7 : Cond.initialized RX7 ∈ wsX7_applyAddress := by decide +kernel
set_option maxRecDepth 20000 in
theorem mm_X7_applyAddress_l100 : Cond.methodLink RX7 100 yX7_reachMemory ∈ wsX7_applyAddress := by decide +kernel
set_option maxRecDepth 20000 in
theorem mm_X7_applyAddress_l104 : Cond.methodLink RX7 104 yX4_extended ∈ wsX7_applyAddress := by decide +kernel
set_option maxRecDepth 20000 in
theorem mm_X7_applyAddress_l15 : Cond.methodLink RX7 15 yX1_i ∈ wsX7_applyAddress := by decide +kernel
set_option maxRecDepth 20000 in
theorem mm_X7_applyAddress_l18 : Cond.methodLink RX7 18 yX1_op ∈ wsX7_applyAddress := by decide +kernel
set_option maxRecDepth 20000 in
theorem mm_X7_applyAddress_l39 : Cond.methodLink RX7 39 yX6_set ∈ wsX7_applyAddress := by decide +kernel
set_option maxRecDepth 20000 in
theorem mm_X7_applyAddress_l97 : Cond.methodLink RX7 97 yX7_shortSum ∈ wsX7_applyAddress := by decide +kernel
set_option maxRecDepth 20000 in
theorem mm_X7_applyAddress_nX1_i : Cond.instanceMethod yX1_i ∈ wsX7_applyAddress := by decide +kernel
set_option maxRecDepth 20000 in
theorem mm_X7_applyAddress_nX1_op : Cond.instanceMethod yX1_op ∈ wsX7_applyAddress := by decide +kernel
set_option maxRecDepth 20000 in
theorem mm_X7_applyAddress_nX6_set : Cond.instanceMethod yX6_set ∈ wsX7_applyAddress := by decide +kernel
set_option maxRecDepth 20000 in
theorem mm_X7_applyAddress_sX1_i : Cond.selects RX1 yX1_i yX1_i ∈ wsX7_applyAddress := by decide +kernel
set_option maxRecDepth 20000 in
theorem mm_X7_applyAddress_sX1_op : Cond.selects RX1 yX1_op yX1_op ∈ wsX7_applyAddress := by decide +kernel
set_option maxRecDepth 20000 in
theorem mm_X7_applyAddress_sX6_set : Cond.selects RX6 yX6_set yX6_set ∈ wsX7_applyAddress := by decide +kernel
set_option maxRecDepth 20000 in
theorem mm_X7_applyAddress_tX4_extended : Cond.static yX4_extended ∈ wsX7_applyAddress := by decide +kernel
set_option maxRecDepth 20000 in
theorem mm_X7_applyAddress_tX7_reachMemory : Cond.static yX7_reachMemory ∈ wsX7_applyAddress := by decide +kernel
set_option maxRecDepth 20000 in
theorem mm_X7_applyAddress_tX7_shortSum : Cond.static yX7_shortSum ∈ wsX7_applyAddress := by decide +kernel
set_option maxHeartbeats 4000000 in
set_option maxRecDepth 100000 in
theorem w_X7_applyAddress {p : Program} {l : Launch} {e : Env} {s : State} {m : MethodId} {below : List Frame} {meth : Method} {c : Code} {args : Array Value} (dC : Nat → ClassId) (dI : Nat → Nat → Nat) (cI cJ : ClassId) (hI hG g1 hM m1 hN hR m2 : Nat) (iop : Int32) (ii : Int32) (ij : Int32) (ik : Int32) (ic : Int32) (ip : Int32) (iu : Int32) (gv : Nat → Int64) (mw : Nat → Int64) {w0 : va_W} (C0 : Cx p s m meth c cX7_applyAddress 6 none wsX7_applyAddress RX7 args) (hK : va_K (dC, dI) vwCl [(cI, .int), (cJ, .long)] s) (hZ : Zs false (va_A w0 s.heap.size) s s.heap) (hi : R8 ii) (hj : R8 ij) (hk : R8 ik) {V : (Nat → Int64) × (Nat → Int64)} (hV : (F_X7_applyAddress iop ii ij ik ic gv mw ) = V) (ls : Array Slot) (hl : lv_has ls 6 [(0, .ref hI), (1, .ref hG), (2, .ref hM)]) {H : Heap} {locs : List Loc} (hP : va_P (dC, dI) vwCl [(hI, .inr (1, [.int iop, .int ii, .int ij, .int ik, .int ic, .int ip, .int iu, .ref hN, .ref hR])), (hG, .inr (4, [.ref g1])), (g1, .inl (cJ, 24, .inr (.inl gv))), (hM, .inr (2, [.ref m1, .ref m2])), (m1, .inl (cJ, 512, .inr (.inl mw)))] H) (hD : va_D (va_A w0 s.heap.size) [(hI, .inr (1, [.int iop, .int ii, .int ij, .int ik, .int ic, .int ip, .int iu, .ref hN, .ref hR])), (hG, .inr (4, [.ref g1])), (g1, .inl (cJ, 24, .inr (.inl gv))), (hM, .inr (2, [.ref m1, .ref m2])), (m1, .inl (cJ, 512, .inr (.inl mw)))]) (hS : va_S (va_A w0 s.heap.size) s.heap H locs) : W p l e rm_X7_applyAddress s m args below meth c H locs 0 0 (MQ below (QV (dC, dI) [(cI, .int), (cJ, .long)] w0 [(hI, .inr (1, [.int iop, .int ii, .int ij, .int ik, .int ic, .int ip, .int iu, .ref hN, .ref hR])), (hG, .inr (4, [.ref g1])), (g1, .inl (cJ, 24, .inr (.inl V.1))), (hM, .inr (2, [.ref m1, .ref m2])), (m1, .inl (cJ, 512, .inr (.inl V.2)))] s.heap.size) args s 0 0 (va_A w0 s.heap.size)) (F0 m 0 ls []) := by
  obtain ⟨hx, hb, hr, hlk, hml, hown, hts⟩ := id C0
  have hA : ∀ q : Nat, s.heap.size ≤ q → va_A w0 s.heap.size q := fun q h => Or.inr h
  refine lv_aload_n hx hb dX7_applyAddress_0 rfl (lv_at hl 0 rfl) ?_
  refine lv_aload_n hx hb dX7_applyAddress_1 rfl (lv_at hl 1 rfl) ?_
  refine roSl (As := [.ref hI, .ref hG]) (rest := []) (bytes := cX7_shortSum) (maxL := 10) (rty := (some .long)) (n := 2) C0 (c_X7_shortSum l dC dI cI cJ hI hG g1 hN hR iop ii ij ik ic ip iu gv hi hj hk) ⟨rfl, rfl, rfl, by decide +kernel, by decide, by decide⟩ ggX7_applyAddress_X7_shortSum mm_X7_applyAddress_iX7 mm_X7_applyAddress_l97 mm_X7_applyAddress_tX7_shortSum (hP.sub (ws' := [(hI, .inr (1, [.int iop, .int ii, .int ij, .int ik, .int ic, .int ip, .int iu, .ref hN, .ref hR])), (hG, .inr (4, [.ref g1])), (g1, .inl (cJ, 24, .inr (.inl gv)))]) [0, 1, 2] rfl) hK hl.1 rfl rfl (Nat.le_of_ble_eq_true rfl) dX7_applyAddress_2 ⟨Nat.zero_le _, Nat.zero_le _⟩ ?_
  refine lv_lstore_n (lv' := [(3, .long (F_X7_shortSum iop ij ik ic gv)), (0, .ref hI), (1, .ref hG), (2, .ref hM)]) hx hb dX7_applyAddress_5 rfl hl (by decide) rfl (fun ls hl => ?_)
  refine lv_aload_n hx hb dX7_applyAddress_6 rfl (lv_at hl 1 rfl) ?_
  refine roVi (As := []) (rest := []) (bytes := cX1_i) (maxL := 1) (rty := (some .int)) (n := 0) (ci := 1) C0 (c_X1_i l dC dI cI cJ hI hN hR iop ii ij ik ic ip iu) ⟨rfl, rfl, rfl, by decide +kernel, by decide, by decide⟩ ggX7_applyAddress_X1_i mm_X7_applyAddress_iX1 mm_X7_applyAddress_l15 mm_X7_applyAddress_nX1_i mm_X7_applyAddress_sX1_i rfl rfl (hP.sub (ws' := [(hI, .inr (1, [.int iop, .int ii, .int ij, .int ik, .int ic, .int ip, .int iu, .ref hN, .ref hR]))]) [0] rfl) hK hl.1 rfl rfl (Nat.le_of_ble_eq_true rfl) dX7_applyAddress_7 ⟨Nat.zero_le _, Nat.zero_le _⟩ ?_
  refine lv_istore (lv' := [(5, .int (F_X1_i ii)), (3, .long (F_X7_shortSum iop ij ik ic gv)), (0, .ref hI), (1, .ref hG), (2, .ref hM)]) hx hb dX7_applyAddress_10 hl (by decide) rfl (fun ls hl => ?_)
  refine lv_aload_n hx hb dX7_applyAddress_12 rfl (lv_at hl 2 rfl) ?_
  refine roVi (As := []) (rest := []) (bytes := cX1_op) (maxL := 1) (rty := (some .int)) (n := 0) (ci := 1) C0 (c_X1_op l dC dI cI cJ hI hN hR iop ii ij ik ic ip iu) ⟨rfl, rfl, rfl, by decide +kernel, by decide, by decide⟩ ggX7_applyAddress_X1_op mm_X7_applyAddress_iX1 mm_X7_applyAddress_l18 mm_X7_applyAddress_nX1_op mm_X7_applyAddress_sX1_op rfl rfl (hP.sub (ws' := [(hI, .inr (1, [.int iop, .int ii, .int ij, .int ik, .int ic, .int ip, .int iu, .ref hN, .ref hR]))]) [0] rfl) hK hl.1 rfl rfl (Nat.le_of_ble_eq_true rfl) dX7_applyAddress_13 ⟨Nat.zero_le _, Nat.zero_le _⟩ ?_
  refine lv_iconst (v := (3 : Int32)) hx hb dX7_applyAddress_16 (by decide) ?_
  refine lv_ishr hx hb dX7_applyAddress_17 ?_
  by_cases c1 : ((F_X1_op iop) >>> ((3 : Int32) &&& 31)) = (5 : Int32)
  · refine lv_lookup (off := 26) (tgt := 44) hx hb dX7_applyAddress_18 (by decide) (by rw [c1]; first | done | rfl) (by decide) ?_
    refine lv_aload_n hx hb dX7_applyAddress_44 rfl (lv_at hl 3 rfl) ?_
    refine lv_bipush (v := (8 : Int32)) hx hb dX7_applyAddress_45 (by decide) ?_
    refine lv_iload hx hb dX7_applyAddress_47 (lv_at hl 0 rfl) ?_
    refine lv_iadd hx hb dX7_applyAddress_49 ?_
    refine lv_lload_n hx hb dX7_applyAddress_50 rfl (lv_at hl 1 rfl) ?_
    refine wrVv (As := [.int ((8 : Int32) + (F_X1_i ii)), .long (F_X7_shortSum iop ij ik ic gv)]) (rest := []) (bytes := cX6_set) (maxL := 4) (rty := none) (n := 2) (ci := 4) C0 (c_X6_set l dC dI cI cJ hG g1 ((8 : Int32) + (F_X1_i ii)) (F_X7_shortSum iop ij ik ic gv) gv (by first | exact R8.x hi | exact R8.x hj | exact R8.x hk | exact R8.b hi | exact R8.b hj | exact R8.b hk | exact R8.a hi | exact R8.a hj | exact R8.a hk)) ⟨rfl, rfl, rfl, by decide +kernel, by decide, by decide⟩ ggX7_applyAddress_X6_set mm_X7_applyAddress_iX6 mm_X7_applyAddress_l39 mm_X7_applyAddress_nX6_set mm_X7_applyAddress_sX6_set rfl rfl hP hD hK hS hA (Zs.no _ _ _) [1, 2] [0, 3, 4] [0, 3, 4, 1, 2] [(hI, .inr (1, [.int iop, .int ii, .int ij, .int ik, .int ic, .int ip, .int iu, .ref hN, .ref hR])), (hM, .inr (2, [.ref m1, .ref m2])), (m1, .inl (cJ, 512, .inr (.inl mw)))] [(hI, .inr (1, [.int iop, .int ii, .int ij, .int ik, .int ic, .int ip, .int iu, .ref hN, .ref hR])), (hG, .inr (4, [.ref g1])), (g1, .inl (cJ, 24, .inr (.inl (F_X6_set ((8 : Int32) + (F_X1_i ii)) (F_X7_shortSum iop ij ik ic gv) gv)))), (hM, .inr (2, [.ref m1, .ref m2])), (m1, .inl (cJ, 512, .inr (.inl mw)))] rfl (by decide) (hP.sub (ws' := [(hG, .inr (4, [.ref g1])), (g1, .inl (cJ, 24, .inr (.inl gv)))]) [1, 2] rfl) rfl (by decide) (by decide) (by decide) rfl hl.1 rfl rfl (Nat.le_of_ble_eq_true rfl) dX7_applyAddress_51 ⟨Nat.zero_le _, Nat.zero_le _⟩ (fun H locs hP hD hS => ?_)
    refine lv_aload_n hx hb dX7_applyAddress_54 rfl (lv_at hl 2 rfl) ?_
    refine lv_lload_n hx hb dX7_applyAddress_55 rfl (lv_at hl 1 rfl) ?_
    refine lv_l2i hx hb dX7_applyAddress_56 rfl ?_
    refine lv_aload_n hx hb dX7_applyAddress_57 rfl (lv_at hl 3 rfl) ?_
    refine lv_aload_n hx hb dX7_applyAddress_58 rfl (lv_at hl 4 rfl) ?_
    refine wrSv (As := [.ref hI, .int (F_X7_shortSum iop ij ik ic gv).toInt32, .ref hG, .ref hM]) (rest := []) (bytes := cX7_reachMemory) (maxL := 4) (rty := none) (n := 4) C0 (c_X7_reachMemory l dC dI cI cJ hI hG g1 hM m1 hN hR m2 ((F_X7_shortSum iop ij ik ic gv).toInt32) iop ii ij ik ic ip iu (F_X6_set ((8 : Int32) + (F_X1_i ii)) (F_X7_shortSum iop ij ik ic gv) gv) mw hi hj hk) ⟨rfl, rfl, rfl, by decide +kernel, by decide, by decide⟩ ggX7_applyAddress_X7_reachMemory mm_X7_applyAddress_iX7 mm_X7_applyAddress_l100 mm_X7_applyAddress_tX7_reachMemory hP hD hK hS hA (Zs.no _ _ _) [0, 1, 2, 3, 4] [] [0, 1, 2, 3, 4] [] [(hI, .inr (1, [.int iop, .int ii, .int ij, .int ik, .int ic, .int ip, .int iu, .ref hN, .ref hR])), (hG, .inr (4, [.ref g1])), (g1, .inl (cJ, 24, .inr (.inl ((F_X7_reachMemory ((F_X7_shortSum iop ij ik ic gv).toInt32) iop ii (F_X6_set ((8 : Int32) + (F_X1_i ii)) (F_X7_shortSum iop ij ik ic gv) gv) mw).1)))), (hM, .inr (2, [.ref m1, .ref m2])), (m1, .inl (cJ, 512, .inr (.inl ((F_X7_reachMemory ((F_X7_shortSum iop ij ik ic gv).toInt32) iop ii (F_X6_set ((8 : Int32) + (F_X1_i ii)) (F_X7_shortSum iop ij ik ic gv) gv) mw).2))))] rfl (by decide) (hP.sub (ws' := [(hI, .inr (1, [.int iop, .int ii, .int ij, .int ik, .int ic, .int ip, .int iu, .ref hN, .ref hR])), (hG, .inr (4, [.ref g1])), (g1, .inl (cJ, 24, .inr (.inl (F_X6_set ((8 : Int32) + (F_X1_i ii)) (F_X7_shortSum iop ij ik ic gv) gv)))), (hM, .inr (2, [.ref m1, .ref m2])), (m1, .inl (cJ, 512, .inr (.inl mw)))]) [0, 1, 2, 3, 4] rfl) rfl (by decide) (by decide) (by decide) rfl hl.1 rfl rfl (Nat.le_of_ble_eq_true rfl) dX7_applyAddress_59 ⟨Nat.zero_le _, Nat.zero_le _⟩ (fun H locs hP hD hS => ?_)
    refine lv_goto (tgt := 88) hx hb dX7_applyAddress_62 (by decide) ?_
    have e9 : (F_X7_applyAddress iop ii ij ik ic gv mw ) = (((F_X7_reachMemory ((F_X7_shortSum iop ij ik ic gv).toInt32) iop ii (F_X6_set ((8 : Int32) + (F_X1_i ii)) (F_X7_shortSum iop ij ik ic gv) gv) mw).1), ((F_X7_reachMemory ((F_X7_shortSum iop ij ik ic gv).toInt32) iop ii (F_X6_set ((8 : Int32) + (F_X1_i ii)) (F_X7_shortSum iop ij ik ic gv) gv) mw).2)) := by rw [F_X7_applyAddress, if_pos c1]
    rw [e9] at hV
    subst hV
    exact wrRetV C0 hK hP hD hS dX7_applyAddress_88
  by_cases c2 : ((F_X1_op iop) >>> ((3 : Int32) &&& 31)) = (6 : Int32)
  · refine lv_lookup (off := 47) (tgt := 65) hx hb dX7_applyAddress_18 (by decide) (by rw [c2]; first | done | rfl) (by decide) ?_
    refine lv_aload_n hx hb dX7_applyAddress_65 rfl (lv_at hl 3 rfl) ?_
    refine lv_bipush (v := (16 : Int32)) hx hb dX7_applyAddress_66 (by decide) ?_
    refine lv_iload hx hb dX7_applyAddress_68 (lv_at hl 0 rfl) ?_
    refine lv_iadd hx hb dX7_applyAddress_70 ?_
    refine lv_lload_n hx hb dX7_applyAddress_71 rfl (lv_at hl 1 rfl) ?_
    refine wrVv (As := [.int ((16 : Int32) + (F_X1_i ii)), .long (F_X7_shortSum iop ij ik ic gv)]) (rest := []) (bytes := cX6_set) (maxL := 4) (rty := none) (n := 2) (ci := 4) C0 (c_X6_set l dC dI cI cJ hG g1 ((16 : Int32) + (F_X1_i ii)) (F_X7_shortSum iop ij ik ic gv) gv (by first | exact R8.x hi | exact R8.x hj | exact R8.x hk | exact R8.b hi | exact R8.b hj | exact R8.b hk | exact R8.a hi | exact R8.a hj | exact R8.a hk)) ⟨rfl, rfl, rfl, by decide +kernel, by decide, by decide⟩ ggX7_applyAddress_X6_set mm_X7_applyAddress_iX6 mm_X7_applyAddress_l39 mm_X7_applyAddress_nX6_set mm_X7_applyAddress_sX6_set rfl rfl hP hD hK hS hA (Zs.no _ _ _) [1, 2] [0, 3, 4] [0, 3, 4, 1, 2] [(hI, .inr (1, [.int iop, .int ii, .int ij, .int ik, .int ic, .int ip, .int iu, .ref hN, .ref hR])), (hM, .inr (2, [.ref m1, .ref m2])), (m1, .inl (cJ, 512, .inr (.inl mw)))] [(hI, .inr (1, [.int iop, .int ii, .int ij, .int ik, .int ic, .int ip, .int iu, .ref hN, .ref hR])), (hG, .inr (4, [.ref g1])), (g1, .inl (cJ, 24, .inr (.inl (F_X6_set ((16 : Int32) + (F_X1_i ii)) (F_X7_shortSum iop ij ik ic gv) gv)))), (hM, .inr (2, [.ref m1, .ref m2])), (m1, .inl (cJ, 512, .inr (.inl mw)))] rfl (by decide) (hP.sub (ws' := [(hG, .inr (4, [.ref g1])), (g1, .inl (cJ, 24, .inr (.inl gv)))]) [1, 2] rfl) rfl (by decide) (by decide) (by decide) rfl hl.1 rfl rfl (Nat.le_of_ble_eq_true rfl) dX7_applyAddress_72 ⟨Nat.zero_le _, Nat.zero_le _⟩ (fun H locs hP hD hS => ?_)
    refine lv_goto (tgt := 88) hx hb dX7_applyAddress_75 (by decide) ?_
    have e9 : (F_X7_applyAddress iop ii ij ik ic gv mw ) = ((F_X6_set ((16 : Int32) + (F_X1_i ii)) (F_X7_shortSum iop ij ik ic gv) gv), mw) := by rw [F_X7_applyAddress, if_neg c1, if_pos c2]
    rw [e9] at hV
    subst hV
    exact wrRetV C0 hK hP hD hS dX7_applyAddress_88
  refine lv_lookup (off := 60) (tgt := 78) hx hb dX7_applyAddress_18 (by decide) (by show Op.lookupswitch.offset [(5, 26), (6, 47)] _ _ = _; rw [lv_osw c1 (by decide), lv_osw c2 (by decide)]; first | done | rfl) (by decide) ?_
  refine lv_aload_n hx hb dX7_applyAddress_78 rfl (lv_at hl 3 rfl) ?_
  refine lv_iload hx hb dX7_applyAddress_79 (lv_at hl 0 rfl) ?_
  refine lv_lload_n hx hb dX7_applyAddress_81 rfl (lv_at hl 1 rfl) ?_
  refine roSl (As := [.long (F_X7_shortSum iop ij ik ic gv)]) (rest := [.int (F_X1_i ii), .ref hG]) (bytes := cX4_extended) (maxL := 2) (rty := (some .long)) (n := 1) C0 (c_X4_extended l dC dI cI cJ (F_X7_shortSum iop ij ik ic gv)) ⟨rfl, rfl, rfl, by decide +kernel, by decide, by decide⟩ ggX7_applyAddress_X4_extended mm_X7_applyAddress_iX4 mm_X7_applyAddress_l104 mm_X7_applyAddress_tX4_extended (hP.sub (ws' := []) [] rfl) hK hl.1 rfl rfl (Nat.le_of_ble_eq_true rfl) dX7_applyAddress_82 ⟨Nat.zero_le _, Nat.zero_le _⟩ ?_
  refine wrVv (As := [.int (F_X1_i ii), .long (F_X4_extended (F_X7_shortSum iop ij ik ic gv))]) (rest := []) (bytes := cX6_set) (maxL := 4) (rty := none) (n := 2) (ci := 4) C0 (c_X6_set l dC dI cI cJ hG g1 (F_X1_i ii) (F_X4_extended (F_X7_shortSum iop ij ik ic gv)) gv (by first | exact R8.x hi | exact R8.x hj | exact R8.x hk | exact R8.b hi | exact R8.b hj | exact R8.b hk | exact R8.a hi | exact R8.a hj | exact R8.a hk)) ⟨rfl, rfl, rfl, by decide +kernel, by decide, by decide⟩ ggX7_applyAddress_X6_set mm_X7_applyAddress_iX6 mm_X7_applyAddress_l39 mm_X7_applyAddress_nX6_set mm_X7_applyAddress_sX6_set rfl rfl hP hD hK hS hA (Zs.no _ _ _) [1, 2] [0, 3, 4] [0, 3, 4, 1, 2] [(hI, .inr (1, [.int iop, .int ii, .int ij, .int ik, .int ic, .int ip, .int iu, .ref hN, .ref hR])), (hM, .inr (2, [.ref m1, .ref m2])), (m1, .inl (cJ, 512, .inr (.inl mw)))] [(hI, .inr (1, [.int iop, .int ii, .int ij, .int ik, .int ic, .int ip, .int iu, .ref hN, .ref hR])), (hG, .inr (4, [.ref g1])), (g1, .inl (cJ, 24, .inr (.inl (F_X6_set (F_X1_i ii) (F_X4_extended (F_X7_shortSum iop ij ik ic gv)) gv)))), (hM, .inr (2, [.ref m1, .ref m2])), (m1, .inl (cJ, 512, .inr (.inl mw)))] rfl (by decide) (hP.sub (ws' := [(hG, .inr (4, [.ref g1])), (g1, .inl (cJ, 24, .inr (.inl gv)))]) [1, 2] rfl) rfl (by decide) (by decide) (by decide) rfl hl.1 rfl rfl (Nat.le_of_ble_eq_true rfl) dX7_applyAddress_85 ⟨Nat.zero_le _, Nat.zero_le _⟩ (fun H locs hP hD hS => ?_)
  have e9 : (F_X7_applyAddress iop ii ij ik ic gv mw ) = ((F_X6_set (F_X1_i ii) (F_X4_extended (F_X7_shortSum iop ij ik ic gv)) gv), mw) := by rw [F_X7_applyAddress, if_neg c1, if_neg c2]
  rw [e9] at hV
  subst hV
  exact wrRetV C0 hK hP hD hS dX7_applyAddress_88
theorem c_X7_applyAddress (l : Launch) (dC : Nat → ClassId) (dI : Nat → Nat → Nat) (cI cJ : ClassId) (hI hG g1 hM m1 hN hR m2 : Nat) (iop : Int32) (ii : Int32) (ij : Int32) (ik : Int32) (ic : Int32) (ip : Int32) (iu : Int32) (gv : Nat → Int64) (mw : Nat → Int64) (hi : R8 ii) (hj : R8 ij) (hk : R8 ik) : WrV false l yX7_applyAddress wsX7_applyAddress rm_X7_applyAddress (dC, dI) [(cI, .int), (cJ, .long)] [(hI, .inr (1, [.int iop, .int ii, .int ij, .int ik, .int ic, .int ip, .int iu, .ref hN, .ref hR])), (hG, .inr (4, [.ref g1])), (g1, .inl (cJ, 24, .inr (.inl gv))), (hM, .inr (2, [.ref m1, .ref m2])), (m1, .inl (cJ, 512, .inr (.inl mw)))] [(hI, .inr (1, [.int iop, .int ii, .int ij, .int ik, .int ic, .int ip, .int iu, .ref hN, .ref hR])), (hG, .inr (4, [.ref g1])), (g1, .inl (cJ, 24, .inr (.inl ((F_X7_applyAddress iop ii ij ik ic gv mw ).1)))), (hM, .inr (2, [.ref m1, .ref m2])), (m1, .inl (cJ, 512, .inr (.inl ((F_X7_applyAddress iop ii ij ik ic gv mw ).2))))] [.ref hI, .ref hG, .ref hM] := by
  refine WrV.mk (cc := cX7_applyAddress) (nL := 6) (ret := none) [(0, .ref hI), (1, .ref hG), (2, .ref hM)] (by decide) rfl (Nat.le_of_ble_eq_true rfl) rfl ?_
  intro p e s m below meth c C0 hP hK hD hS hZ ls hl
  exact w_X7_applyAddress dC dI cI cJ hI hG g1 hM m1 hN hR m2 iop ii ij ik ic ip iu gv mw C0 hK hZ hi hj hk rfl ls hl hP hD hS

-- X7_apply
def F_X7_apply (iop : Int32) (ii : Int32) (ij : Int32) (ik : Int32) (ic : Int32) (iu : Int32) (gv : Nat → Int64) (mw : Nat → Int64) : (Nat → Int64) × (Nat → Int64) :=
  (if (F_X1_unit iu) = (0 : Int32) then ((F_X6_set (F_X1_i ii) (F_X7_logic (F_X1_op iop) (F_X6_x (F_X1_j ij) gv) (F_X6_x (F_X1_k ik) gv)) gv), mw) else (if (F_X1_unit iu) = (1 : Int32) then ((F_X6_set (F_X1_i ii) (F_X7_shift iop ii ij ik gv) gv), mw) else (if (F_X1_unit iu) = (2 : Int32) then ((F_X6_set (F_X1_i ii) (F_X7_wordSum (F_X1_op iop) (F_X6_x (F_X1_j ij) gv) (F_X6_x (F_X1_k ik) gv)) gv), mw) else (if (F_X1_unit iu) = (3 : Int32) then ((F_X6_set (F_X1_i ii) ((F_J13_bitCount_95d88 (F_X6_x (F_X1_k ik) gv)).toInt64) gv), mw) else (if (F_X1_unit iu) = (4 : Int32) then (((F_X7_applyAddress iop ii ij ik ic gv mw).1), ((F_X7_applyAddress iop ii ij ik ic gv mw).2)) else (gv, mw))))))
abbrev rm_X7_apply : Room := { frames := 4, cells := 0, slots := 0, locals := 107 }
set_option maxRecDepth 20000 in
theorem mm_X7_apply_iJ13 : Cond.initialized RJ13 ∈ wsX7_apply := by decide +kernel
set_option maxRecDepth 20000 in
theorem mm_X7_apply_iX1 : Cond.initialized RX1 ∈ wsX7_apply := by decide +kernel
set_option maxRecDepth 20000 in
theorem mm_X7_apply_iX6 : Cond.initialized RX6 ∈ wsX7_apply := by decide +kernel
set_option maxRecDepth 20000 in
theorem mm_X7_apply_iX7 : Cond.initialized RX7 ∈ wsX7_apply := by decide +kernel
set_option maxRecDepth 20000 in
theorem mm_X7_apply_l15 : Cond.methodLink RX7 15 yX1_i ∈ wsX7_apply := by decide +kernel
set_option maxRecDepth 20000 in
theorem mm_X7_apply_l18 : Cond.methodLink RX7 18 yX1_op ∈ wsX7_apply := by decide +kernel
set_option maxRecDepth 20000 in
theorem mm_X7_apply_l21 : Cond.methodLink RX7 21 yX1_j ∈ wsX7_apply := by decide +kernel
set_option maxRecDepth 20000 in
theorem mm_X7_apply_l24 : Cond.methodLink RX7 24 yX6_x ∈ wsX7_apply := by decide +kernel
set_option maxRecDepth 20000 in
theorem mm_X7_apply_l30 : Cond.methodLink RX7 30 yX1_k ∈ wsX7_apply := by decide +kernel
set_option maxRecDepth 20000 in
theorem mm_X7_apply_l33 : Cond.methodLink RX7 33 yX7_logic ∈ wsX7_apply := by decide +kernel
set_option maxRecDepth 20000 in
theorem mm_X7_apply_l39 : Cond.methodLink RX7 39 yX6_set ∈ wsX7_apply := by decide +kernel
set_option maxRecDepth 20000 in
theorem mm_X7_apply_l43 : Cond.methodLink RX7 43 yX7_shift ∈ wsX7_apply := by decide +kernel
set_option maxRecDepth 20000 in
theorem mm_X7_apply_l47 : Cond.methodLink RX7 47 yX7_wordSum ∈ wsX7_apply := by decide +kernel
set_option maxRecDepth 20000 in
theorem mm_X7_apply_l50 : Cond.methodLink RX7 50 yJ13_bitCount_95d88 ∈ wsX7_apply := by decide +kernel
set_option maxRecDepth 20000 in
theorem mm_X7_apply_l56 : Cond.methodLink RX7 56 yX7_applyAddress ∈ wsX7_apply := by decide +kernel
set_option maxRecDepth 20000 in
theorem mm_X7_apply_l9 : Cond.methodLink RX7 9 yX1_unit ∈ wsX7_apply := by decide +kernel
set_option maxRecDepth 20000 in
theorem mm_X7_apply_nX1_i : Cond.instanceMethod yX1_i ∈ wsX7_apply := by decide +kernel
set_option maxRecDepth 20000 in
theorem mm_X7_apply_nX1_j : Cond.instanceMethod yX1_j ∈ wsX7_apply := by decide +kernel
set_option maxRecDepth 20000 in
theorem mm_X7_apply_nX1_k : Cond.instanceMethod yX1_k ∈ wsX7_apply := by decide +kernel
set_option maxRecDepth 20000 in
theorem mm_X7_apply_nX1_op : Cond.instanceMethod yX1_op ∈ wsX7_apply := by decide +kernel
set_option maxRecDepth 20000 in
theorem mm_X7_apply_nX1_unit : Cond.instanceMethod yX1_unit ∈ wsX7_apply := by decide +kernel
set_option maxRecDepth 20000 in
theorem mm_X7_apply_nX6_set : Cond.instanceMethod yX6_set ∈ wsX7_apply := by decide +kernel
set_option maxRecDepth 20000 in
theorem mm_X7_apply_nX6_x : Cond.instanceMethod yX6_x ∈ wsX7_apply := by decide +kernel
set_option maxRecDepth 20000 in
theorem mm_X7_apply_sX1_i : Cond.selects RX1 yX1_i yX1_i ∈ wsX7_apply := by decide +kernel
set_option maxRecDepth 20000 in
theorem mm_X7_apply_sX1_j : Cond.selects RX1 yX1_j yX1_j ∈ wsX7_apply := by decide +kernel
set_option maxRecDepth 20000 in
theorem mm_X7_apply_sX1_k : Cond.selects RX1 yX1_k yX1_k ∈ wsX7_apply := by decide +kernel
set_option maxRecDepth 20000 in
theorem mm_X7_apply_sX1_op : Cond.selects RX1 yX1_op yX1_op ∈ wsX7_apply := by decide +kernel
set_option maxRecDepth 20000 in
theorem mm_X7_apply_sX1_unit : Cond.selects RX1 yX1_unit yX1_unit ∈ wsX7_apply := by decide +kernel
set_option maxRecDepth 20000 in
theorem mm_X7_apply_sX6_set : Cond.selects RX6 yX6_set yX6_set ∈ wsX7_apply := by decide +kernel
set_option maxRecDepth 20000 in
theorem mm_X7_apply_sX6_x : Cond.selects RX6 yX6_x yX6_x ∈ wsX7_apply := by decide +kernel
set_option maxRecDepth 20000 in
theorem mm_X7_apply_tJ13_bitCount_95d88 : Cond.static yJ13_bitCount_95d88 ∈ wsX7_apply := by decide +kernel
set_option maxRecDepth 20000 in
theorem mm_X7_apply_tX7_applyAddress : Cond.static yX7_applyAddress ∈ wsX7_apply := by decide +kernel
set_option maxRecDepth 20000 in
theorem mm_X7_apply_tX7_logic : Cond.static yX7_logic ∈ wsX7_apply := by decide +kernel
set_option maxRecDepth 20000 in
theorem mm_X7_apply_tX7_shift : Cond.static yX7_shift ∈ wsX7_apply := by decide +kernel
set_option maxRecDepth 20000 in
theorem mm_X7_apply_tX7_wordSum : Cond.static yX7_wordSum ∈ wsX7_apply := by decide +kernel
set_option maxHeartbeats 4000000 in
set_option maxRecDepth 100000 in
theorem w_X7_apply {p : Program} {l : Launch} {e : Env} {s : State} {m : MethodId} {below : List Frame} {meth : Method} {c : Code} {args : Array Value} (dC : Nat → ClassId) (dI : Nat → Nat → Nat) (cI cJ : ClassId) (hI hG g1 hM m1 hN hR m2 : Nat) (iop : Int32) (ii : Int32) (ij : Int32) (ik : Int32) (ic : Int32) (ip : Int32) (iu : Int32) (gv : Nat → Int64) (mw : Nat → Int64) {w0 : va_W} (C0 : Cx p s m meth c cX7_apply 3 none wsX7_apply RX7 args) (hK : va_K (dC, dI) vwCl [(cI, .int), (cJ, .long)] s) (hZ : Zs false (va_A w0 s.heap.size) s s.heap) (hi : R8 ii) (hj : R8 ij) (hk : R8 ik) {V : (Nat → Int64) × (Nat → Int64)} (hV : (F_X7_apply iop ii ij ik ic iu gv mw ) = V) (ls : Array Slot) (hl : lv_has ls 3 [(0, .ref hI), (1, .ref hG), (2, .ref hM)]) {H : Heap} {locs : List Loc} (hP : va_P (dC, dI) vwCl [(hI, .inr (1, [.int iop, .int ii, .int ij, .int ik, .int ic, .int ip, .int iu, .ref hN, .ref hR])), (hG, .inr (4, [.ref g1])), (g1, .inl (cJ, 24, .inr (.inl gv))), (hM, .inr (2, [.ref m1, .ref m2])), (m1, .inl (cJ, 512, .inr (.inl mw)))] H) (hD : va_D (va_A w0 s.heap.size) [(hI, .inr (1, [.int iop, .int ii, .int ij, .int ik, .int ic, .int ip, .int iu, .ref hN, .ref hR])), (hG, .inr (4, [.ref g1])), (g1, .inl (cJ, 24, .inr (.inl gv))), (hM, .inr (2, [.ref m1, .ref m2])), (m1, .inl (cJ, 512, .inr (.inl mw)))]) (hS : va_S (va_A w0 s.heap.size) s.heap H locs) : W p l e rm_X7_apply s m args below meth c H locs 0 0 (MQ below (QV (dC, dI) [(cI, .int), (cJ, .long)] w0 [(hI, .inr (1, [.int iop, .int ii, .int ij, .int ik, .int ic, .int ip, .int iu, .ref hN, .ref hR])), (hG, .inr (4, [.ref g1])), (g1, .inl (cJ, 24, .inr (.inl V.1))), (hM, .inr (2, [.ref m1, .ref m2])), (m1, .inl (cJ, 512, .inr (.inl V.2)))] s.heap.size) args s 0 0 (va_A w0 s.heap.size)) (F0 m 0 ls []) := by
  obtain ⟨hx, hb, hr, hlk, hml, hown, hts⟩ := id C0
  have hA : ∀ q : Nat, s.heap.size ≤ q → va_A w0 s.heap.size q := fun q h => Or.inr h
  refine lv_aload_n hx hb dX7_apply_0 rfl (lv_at hl 0 rfl) ?_
  refine roVi (As := []) (rest := []) (bytes := cX1_unit) (maxL := 1) (rty := (some .int)) (n := 0) (ci := 1) C0 (c_X1_unit l dC dI cI cJ hI hN hR iop ii ij ik ic ip iu) ⟨rfl, rfl, rfl, by decide +kernel, by decide, by decide⟩ ggX7_apply_X1_unit mm_X7_apply_iX1 mm_X7_apply_l9 mm_X7_apply_nX1_unit mm_X7_apply_sX1_unit rfl rfl (hP.sub (ws' := [(hI, .inr (1, [.int iop, .int ii, .int ij, .int ik, .int ic, .int ip, .int iu, .ref hN, .ref hR]))]) [0] rfl) hK hl.1 rfl rfl (Nat.le_of_ble_eq_true rfl) dX7_apply_1 ⟨Nat.zero_le _, Nat.zero_le _⟩ ?_
  by_cases c1 : (F_X1_unit iu) = (0 : Int32)
  · refine lv_tableIn (tgt := 40) hx hb dX7_apply_4 (by rw [c1]; decide) (by rw [c1]; decide) (by rw [c1]; rfl) (by decide) ?_
    refine lv_aload_n hx hb dX7_apply_40 rfl (lv_at hl 1 rfl) ?_
    refine lv_aload_n hx hb dX7_apply_41 rfl (lv_at hl 0 rfl) ?_
    refine roVi (As := []) (rest := [.ref hG]) (bytes := cX1_i) (maxL := 1) (rty := (some .int)) (n := 0) (ci := 1) C0 (c_X1_i l dC dI cI cJ hI hN hR iop ii ij ik ic ip iu) ⟨rfl, rfl, rfl, by decide +kernel, by decide, by decide⟩ ggX7_apply_X1_i mm_X7_apply_iX1 mm_X7_apply_l15 mm_X7_apply_nX1_i mm_X7_apply_sX1_i rfl rfl (hP.sub (ws' := [(hI, .inr (1, [.int iop, .int ii, .int ij, .int ik, .int ic, .int ip, .int iu, .ref hN, .ref hR]))]) [0] rfl) hK hl.1 rfl rfl (Nat.le_of_ble_eq_true rfl) dX7_apply_42 ⟨Nat.zero_le _, Nat.zero_le _⟩ ?_
    refine lv_aload_n hx hb dX7_apply_45 rfl (lv_at hl 0 rfl) ?_
    refine roVi (As := []) (rest := [.int (F_X1_i ii), .ref hG]) (bytes := cX1_op) (maxL := 1) (rty := (some .int)) (n := 0) (ci := 1) C0 (c_X1_op l dC dI cI cJ hI hN hR iop ii ij ik ic ip iu) ⟨rfl, rfl, rfl, by decide +kernel, by decide, by decide⟩ ggX7_apply_X1_op mm_X7_apply_iX1 mm_X7_apply_l18 mm_X7_apply_nX1_op mm_X7_apply_sX1_op rfl rfl (hP.sub (ws' := [(hI, .inr (1, [.int iop, .int ii, .int ij, .int ik, .int ic, .int ip, .int iu, .ref hN, .ref hR]))]) [0] rfl) hK hl.1 rfl rfl (Nat.le_of_ble_eq_true rfl) dX7_apply_46 ⟨Nat.zero_le _, Nat.zero_le _⟩ ?_
    refine lv_aload_n hx hb dX7_apply_49 rfl (lv_at hl 1 rfl) ?_
    refine lv_aload_n hx hb dX7_apply_50 rfl (lv_at hl 0 rfl) ?_
    refine roVi (As := []) (rest := [.ref hG, .int (F_X1_op iop), .int (F_X1_i ii), .ref hG]) (bytes := cX1_j) (maxL := 1) (rty := (some .int)) (n := 0) (ci := 1) C0 (c_X1_j l dC dI cI cJ hI hN hR iop ii ij ik ic ip iu) ⟨rfl, rfl, rfl, by decide +kernel, by decide, by decide⟩ ggX7_apply_X1_j mm_X7_apply_iX1 mm_X7_apply_l21 mm_X7_apply_nX1_j mm_X7_apply_sX1_j rfl rfl (hP.sub (ws' := [(hI, .inr (1, [.int iop, .int ii, .int ij, .int ik, .int ic, .int ip, .int iu, .ref hN, .ref hR]))]) [0] rfl) hK hl.1 rfl rfl (Nat.le_of_ble_eq_true rfl) dX7_apply_51 ⟨Nat.zero_le _, Nat.zero_le _⟩ ?_
    refine roVl (As := [.int (F_X1_j ij)]) (rest := [.int (F_X1_op iop), .int (F_X1_i ii), .ref hG]) (bytes := cX6_x) (maxL := 2) (rty := (some .long)) (n := 1) (ci := 4) C0 (c_X6_x l dC dI cI cJ hG g1 (F_X1_j ij) gv (by first | exact R8.x hi | exact R8.x hj | exact R8.x hk | exact R8.b hi | exact R8.b hj | exact R8.b hk | exact R8.a hi | exact R8.a hj | exact R8.a hk)) ⟨rfl, rfl, rfl, by decide +kernel, by decide, by decide⟩ ggX7_apply_X6_x mm_X7_apply_iX6 mm_X7_apply_l24 mm_X7_apply_nX6_x mm_X7_apply_sX6_x rfl rfl (hP.sub (ws' := [(hG, .inr (4, [.ref g1])), (g1, .inl (cJ, 24, .inr (.inl gv)))]) [1, 2] rfl) hK hl.1 rfl rfl (Nat.le_of_ble_eq_true rfl) dX7_apply_54 ⟨Nat.zero_le _, Nat.zero_le _⟩ ?_
    refine lv_aload_n hx hb dX7_apply_57 rfl (lv_at hl 1 rfl) ?_
    refine lv_aload_n hx hb dX7_apply_58 rfl (lv_at hl 0 rfl) ?_
    refine roVi (As := []) (rest := [.ref hG, .long (F_X6_x (F_X1_j ij) gv), .int (F_X1_op iop), .int (F_X1_i ii), .ref hG]) (bytes := cX1_k) (maxL := 1) (rty := (some .int)) (n := 0) (ci := 1) C0 (c_X1_k l dC dI cI cJ hI hN hR iop ii ij ik ic ip iu) ⟨rfl, rfl, rfl, by decide +kernel, by decide, by decide⟩ ggX7_apply_X1_k mm_X7_apply_iX1 mm_X7_apply_l30 mm_X7_apply_nX1_k mm_X7_apply_sX1_k rfl rfl (hP.sub (ws' := [(hI, .inr (1, [.int iop, .int ii, .int ij, .int ik, .int ic, .int ip, .int iu, .ref hN, .ref hR]))]) [0] rfl) hK hl.1 rfl rfl (Nat.le_of_ble_eq_true rfl) dX7_apply_59 ⟨Nat.zero_le _, Nat.zero_le _⟩ ?_
    refine roVl (As := [.int (F_X1_k ik)]) (rest := [.long (F_X6_x (F_X1_j ij) gv), .int (F_X1_op iop), .int (F_X1_i ii), .ref hG]) (bytes := cX6_x) (maxL := 2) (rty := (some .long)) (n := 1) (ci := 4) C0 (c_X6_x l dC dI cI cJ hG g1 (F_X1_k ik) gv (by first | exact R8.x hi | exact R8.x hj | exact R8.x hk | exact R8.b hi | exact R8.b hj | exact R8.b hk | exact R8.a hi | exact R8.a hj | exact R8.a hk)) ⟨rfl, rfl, rfl, by decide +kernel, by decide, by decide⟩ ggX7_apply_X6_x mm_X7_apply_iX6 mm_X7_apply_l24 mm_X7_apply_nX6_x mm_X7_apply_sX6_x rfl rfl (hP.sub (ws' := [(hG, .inr (4, [.ref g1])), (g1, .inl (cJ, 24, .inr (.inl gv)))]) [1, 2] rfl) hK hl.1 rfl rfl (Nat.le_of_ble_eq_true rfl) dX7_apply_62 ⟨Nat.zero_le _, Nat.zero_le _⟩ ?_
    refine roSl (As := [.int (F_X1_op iop), .long (F_X6_x (F_X1_j ij) gv), .long (F_X6_x (F_X1_k ik) gv)]) (rest := [.int (F_X1_i ii), .ref hG]) (bytes := cX7_logic) (maxL := 5) (rty := (some .long)) (n := 3) C0 (c_X7_logic l dC dI cI cJ (F_X1_op iop) (F_X6_x (F_X1_j ij) gv) (F_X6_x (F_X1_k ik) gv)) ⟨rfl, rfl, rfl, by decide +kernel, by decide, by decide⟩ ggX7_apply_X7_logic mm_X7_apply_iX7 mm_X7_apply_l33 mm_X7_apply_tX7_logic (hP.sub (ws' := []) [] rfl) hK hl.1 rfl rfl (Nat.le_of_ble_eq_true rfl) dX7_apply_65 ⟨Nat.zero_le _, Nat.zero_le _⟩ ?_
    refine wrVv (As := [.int (F_X1_i ii), .long (F_X7_logic (F_X1_op iop) (F_X6_x (F_X1_j ij) gv) (F_X6_x (F_X1_k ik) gv))]) (rest := []) (bytes := cX6_set) (maxL := 4) (rty := none) (n := 2) (ci := 4) C0 (c_X6_set l dC dI cI cJ hG g1 (F_X1_i ii) (F_X7_logic (F_X1_op iop) (F_X6_x (F_X1_j ij) gv) (F_X6_x (F_X1_k ik) gv)) gv (by first | exact R8.x hi | exact R8.x hj | exact R8.x hk | exact R8.b hi | exact R8.b hj | exact R8.b hk | exact R8.a hi | exact R8.a hj | exact R8.a hk)) ⟨rfl, rfl, rfl, by decide +kernel, by decide, by decide⟩ ggX7_apply_X6_set mm_X7_apply_iX6 mm_X7_apply_l39 mm_X7_apply_nX6_set mm_X7_apply_sX6_set rfl rfl hP hD hK hS hA (Zs.no _ _ _) [1, 2] [0, 3, 4] [0, 3, 4, 1, 2] [(hI, .inr (1, [.int iop, .int ii, .int ij, .int ik, .int ic, .int ip, .int iu, .ref hN, .ref hR])), (hM, .inr (2, [.ref m1, .ref m2])), (m1, .inl (cJ, 512, .inr (.inl mw)))] [(hI, .inr (1, [.int iop, .int ii, .int ij, .int ik, .int ic, .int ip, .int iu, .ref hN, .ref hR])), (hG, .inr (4, [.ref g1])), (g1, .inl (cJ, 24, .inr (.inl (F_X6_set (F_X1_i ii) (F_X7_logic (F_X1_op iop) (F_X6_x (F_X1_j ij) gv) (F_X6_x (F_X1_k ik) gv)) gv)))), (hM, .inr (2, [.ref m1, .ref m2])), (m1, .inl (cJ, 512, .inr (.inl mw)))] rfl (by decide) (hP.sub (ws' := [(hG, .inr (4, [.ref g1])), (g1, .inl (cJ, 24, .inr (.inl gv)))]) [1, 2] rfl) rfl (by decide) (by decide) (by decide) rfl hl.1 rfl rfl (Nat.le_of_ble_eq_true rfl) dX7_apply_68 ⟨Nat.zero_le _, Nat.zero_le _⟩ (fun H locs hP hD hS => ?_)
    refine lv_goto (tgt := 156) hx hb dX7_apply_71 (by decide) ?_
    have e9 : (F_X7_apply iop ii ij ik ic iu gv mw ) = ((F_X6_set (F_X1_i ii) (F_X7_logic (F_X1_op iop) (F_X6_x (F_X1_j ij) gv) (F_X6_x (F_X1_k ik) gv)) gv), mw) := by rw [F_X7_apply, if_pos c1]
    rw [e9] at hV
    subst hV
    exact wrRetV C0 hK hP hD hS dX7_apply_156
  by_cases c2 : (F_X1_unit iu) = (1 : Int32)
  · refine lv_tableIn (tgt := 74) hx hb dX7_apply_4 (by rw [c2]; decide) (by rw [c2]; decide) (by rw [c2]; rfl) (by decide) ?_
    refine lv_aload_n hx hb dX7_apply_74 rfl (lv_at hl 1 rfl) ?_
    refine lv_aload_n hx hb dX7_apply_75 rfl (lv_at hl 0 rfl) ?_
    refine roVi (As := []) (rest := [.ref hG]) (bytes := cX1_i) (maxL := 1) (rty := (some .int)) (n := 0) (ci := 1) C0 (c_X1_i l dC dI cI cJ hI hN hR iop ii ij ik ic ip iu) ⟨rfl, rfl, rfl, by decide +kernel, by decide, by decide⟩ ggX7_apply_X1_i mm_X7_apply_iX1 mm_X7_apply_l15 mm_X7_apply_nX1_i mm_X7_apply_sX1_i rfl rfl (hP.sub (ws' := [(hI, .inr (1, [.int iop, .int ii, .int ij, .int ik, .int ic, .int ip, .int iu, .ref hN, .ref hR]))]) [0] rfl) hK hl.1 rfl rfl (Nat.le_of_ble_eq_true rfl) dX7_apply_76 ⟨Nat.zero_le _, Nat.zero_le _⟩ ?_
    refine lv_aload_n hx hb dX7_apply_79 rfl (lv_at hl 0 rfl) ?_
    refine lv_aload_n hx hb dX7_apply_80 rfl (lv_at hl 1 rfl) ?_
    refine roSl (As := [.ref hI, .ref hG]) (rest := [.int (F_X1_i ii), .ref hG]) (bytes := cX7_shift) (maxL := 2) (rty := (some .long)) (n := 2) C0 (c_X7_shift l dC dI cI cJ hI hG g1 hN hR iop ii ij ik ic ip iu gv hi hj hk) ⟨rfl, rfl, rfl, by decide +kernel, by decide, by decide⟩ ggX7_apply_X7_shift mm_X7_apply_iX7 mm_X7_apply_l43 mm_X7_apply_tX7_shift (hP.sub (ws' := [(hI, .inr (1, [.int iop, .int ii, .int ij, .int ik, .int ic, .int ip, .int iu, .ref hN, .ref hR])), (hG, .inr (4, [.ref g1])), (g1, .inl (cJ, 24, .inr (.inl gv)))]) [0, 1, 2] rfl) hK hl.1 rfl rfl (Nat.le_of_ble_eq_true rfl) dX7_apply_81 ⟨Nat.zero_le _, Nat.zero_le _⟩ ?_
    refine wrVv (As := [.int (F_X1_i ii), .long (F_X7_shift iop ii ij ik gv)]) (rest := []) (bytes := cX6_set) (maxL := 4) (rty := none) (n := 2) (ci := 4) C0 (c_X6_set l dC dI cI cJ hG g1 (F_X1_i ii) (F_X7_shift iop ii ij ik gv) gv (by first | exact R8.x hi | exact R8.x hj | exact R8.x hk | exact R8.b hi | exact R8.b hj | exact R8.b hk | exact R8.a hi | exact R8.a hj | exact R8.a hk)) ⟨rfl, rfl, rfl, by decide +kernel, by decide, by decide⟩ ggX7_apply_X6_set mm_X7_apply_iX6 mm_X7_apply_l39 mm_X7_apply_nX6_set mm_X7_apply_sX6_set rfl rfl hP hD hK hS hA (Zs.no _ _ _) [1, 2] [0, 3, 4] [0, 3, 4, 1, 2] [(hI, .inr (1, [.int iop, .int ii, .int ij, .int ik, .int ic, .int ip, .int iu, .ref hN, .ref hR])), (hM, .inr (2, [.ref m1, .ref m2])), (m1, .inl (cJ, 512, .inr (.inl mw)))] [(hI, .inr (1, [.int iop, .int ii, .int ij, .int ik, .int ic, .int ip, .int iu, .ref hN, .ref hR])), (hG, .inr (4, [.ref g1])), (g1, .inl (cJ, 24, .inr (.inl (F_X6_set (F_X1_i ii) (F_X7_shift iop ii ij ik gv) gv)))), (hM, .inr (2, [.ref m1, .ref m2])), (m1, .inl (cJ, 512, .inr (.inl mw)))] rfl (by decide) (hP.sub (ws' := [(hG, .inr (4, [.ref g1])), (g1, .inl (cJ, 24, .inr (.inl gv)))]) [1, 2] rfl) rfl (by decide) (by decide) (by decide) rfl hl.1 rfl rfl (Nat.le_of_ble_eq_true rfl) dX7_apply_84 ⟨Nat.zero_le _, Nat.zero_le _⟩ (fun H locs hP hD hS => ?_)
    refine lv_goto (tgt := 156) hx hb dX7_apply_87 (by decide) ?_
    have e9 : (F_X7_apply iop ii ij ik ic iu gv mw ) = ((F_X6_set (F_X1_i ii) (F_X7_shift iop ii ij ik gv) gv), mw) := by rw [F_X7_apply, if_neg c1, if_pos c2]
    rw [e9] at hV
    subst hV
    exact wrRetV C0 hK hP hD hS dX7_apply_156
  by_cases c3 : (F_X1_unit iu) = (2 : Int32)
  · refine lv_tableIn (tgt := 90) hx hb dX7_apply_4 (by rw [c3]; decide) (by rw [c3]; decide) (by rw [c3]; rfl) (by decide) ?_
    refine lv_aload_n hx hb dX7_apply_90 rfl (lv_at hl 1 rfl) ?_
    refine lv_aload_n hx hb dX7_apply_91 rfl (lv_at hl 0 rfl) ?_
    refine roVi (As := []) (rest := [.ref hG]) (bytes := cX1_i) (maxL := 1) (rty := (some .int)) (n := 0) (ci := 1) C0 (c_X1_i l dC dI cI cJ hI hN hR iop ii ij ik ic ip iu) ⟨rfl, rfl, rfl, by decide +kernel, by decide, by decide⟩ ggX7_apply_X1_i mm_X7_apply_iX1 mm_X7_apply_l15 mm_X7_apply_nX1_i mm_X7_apply_sX1_i rfl rfl (hP.sub (ws' := [(hI, .inr (1, [.int iop, .int ii, .int ij, .int ik, .int ic, .int ip, .int iu, .ref hN, .ref hR]))]) [0] rfl) hK hl.1 rfl rfl (Nat.le_of_ble_eq_true rfl) dX7_apply_92 ⟨Nat.zero_le _, Nat.zero_le _⟩ ?_
    refine lv_aload_n hx hb dX7_apply_95 rfl (lv_at hl 0 rfl) ?_
    refine roVi (As := []) (rest := [.int (F_X1_i ii), .ref hG]) (bytes := cX1_op) (maxL := 1) (rty := (some .int)) (n := 0) (ci := 1) C0 (c_X1_op l dC dI cI cJ hI hN hR iop ii ij ik ic ip iu) ⟨rfl, rfl, rfl, by decide +kernel, by decide, by decide⟩ ggX7_apply_X1_op mm_X7_apply_iX1 mm_X7_apply_l18 mm_X7_apply_nX1_op mm_X7_apply_sX1_op rfl rfl (hP.sub (ws' := [(hI, .inr (1, [.int iop, .int ii, .int ij, .int ik, .int ic, .int ip, .int iu, .ref hN, .ref hR]))]) [0] rfl) hK hl.1 rfl rfl (Nat.le_of_ble_eq_true rfl) dX7_apply_96 ⟨Nat.zero_le _, Nat.zero_le _⟩ ?_
    refine lv_aload_n hx hb dX7_apply_99 rfl (lv_at hl 1 rfl) ?_
    refine lv_aload_n hx hb dX7_apply_100 rfl (lv_at hl 0 rfl) ?_
    refine roVi (As := []) (rest := [.ref hG, .int (F_X1_op iop), .int (F_X1_i ii), .ref hG]) (bytes := cX1_j) (maxL := 1) (rty := (some .int)) (n := 0) (ci := 1) C0 (c_X1_j l dC dI cI cJ hI hN hR iop ii ij ik ic ip iu) ⟨rfl, rfl, rfl, by decide +kernel, by decide, by decide⟩ ggX7_apply_X1_j mm_X7_apply_iX1 mm_X7_apply_l21 mm_X7_apply_nX1_j mm_X7_apply_sX1_j rfl rfl (hP.sub (ws' := [(hI, .inr (1, [.int iop, .int ii, .int ij, .int ik, .int ic, .int ip, .int iu, .ref hN, .ref hR]))]) [0] rfl) hK hl.1 rfl rfl (Nat.le_of_ble_eq_true rfl) dX7_apply_101 ⟨Nat.zero_le _, Nat.zero_le _⟩ ?_
    refine roVl (As := [.int (F_X1_j ij)]) (rest := [.int (F_X1_op iop), .int (F_X1_i ii), .ref hG]) (bytes := cX6_x) (maxL := 2) (rty := (some .long)) (n := 1) (ci := 4) C0 (c_X6_x l dC dI cI cJ hG g1 (F_X1_j ij) gv (by first | exact R8.x hi | exact R8.x hj | exact R8.x hk | exact R8.b hi | exact R8.b hj | exact R8.b hk | exact R8.a hi | exact R8.a hj | exact R8.a hk)) ⟨rfl, rfl, rfl, by decide +kernel, by decide, by decide⟩ ggX7_apply_X6_x mm_X7_apply_iX6 mm_X7_apply_l24 mm_X7_apply_nX6_x mm_X7_apply_sX6_x rfl rfl (hP.sub (ws' := [(hG, .inr (4, [.ref g1])), (g1, .inl (cJ, 24, .inr (.inl gv)))]) [1, 2] rfl) hK hl.1 rfl rfl (Nat.le_of_ble_eq_true rfl) dX7_apply_104 ⟨Nat.zero_le _, Nat.zero_le _⟩ ?_
    refine lv_aload_n hx hb dX7_apply_107 rfl (lv_at hl 1 rfl) ?_
    refine lv_aload_n hx hb dX7_apply_108 rfl (lv_at hl 0 rfl) ?_
    refine roVi (As := []) (rest := [.ref hG, .long (F_X6_x (F_X1_j ij) gv), .int (F_X1_op iop), .int (F_X1_i ii), .ref hG]) (bytes := cX1_k) (maxL := 1) (rty := (some .int)) (n := 0) (ci := 1) C0 (c_X1_k l dC dI cI cJ hI hN hR iop ii ij ik ic ip iu) ⟨rfl, rfl, rfl, by decide +kernel, by decide, by decide⟩ ggX7_apply_X1_k mm_X7_apply_iX1 mm_X7_apply_l30 mm_X7_apply_nX1_k mm_X7_apply_sX1_k rfl rfl (hP.sub (ws' := [(hI, .inr (1, [.int iop, .int ii, .int ij, .int ik, .int ic, .int ip, .int iu, .ref hN, .ref hR]))]) [0] rfl) hK hl.1 rfl rfl (Nat.le_of_ble_eq_true rfl) dX7_apply_109 ⟨Nat.zero_le _, Nat.zero_le _⟩ ?_
    refine roVl (As := [.int (F_X1_k ik)]) (rest := [.long (F_X6_x (F_X1_j ij) gv), .int (F_X1_op iop), .int (F_X1_i ii), .ref hG]) (bytes := cX6_x) (maxL := 2) (rty := (some .long)) (n := 1) (ci := 4) C0 (c_X6_x l dC dI cI cJ hG g1 (F_X1_k ik) gv (by first | exact R8.x hi | exact R8.x hj | exact R8.x hk | exact R8.b hi | exact R8.b hj | exact R8.b hk | exact R8.a hi | exact R8.a hj | exact R8.a hk)) ⟨rfl, rfl, rfl, by decide +kernel, by decide, by decide⟩ ggX7_apply_X6_x mm_X7_apply_iX6 mm_X7_apply_l24 mm_X7_apply_nX6_x mm_X7_apply_sX6_x rfl rfl (hP.sub (ws' := [(hG, .inr (4, [.ref g1])), (g1, .inl (cJ, 24, .inr (.inl gv)))]) [1, 2] rfl) hK hl.1 rfl rfl (Nat.le_of_ble_eq_true rfl) dX7_apply_112 ⟨Nat.zero_le _, Nat.zero_le _⟩ ?_
    refine roSl (As := [.int (F_X1_op iop), .long (F_X6_x (F_X1_j ij) gv), .long (F_X6_x (F_X1_k ik) gv)]) (rest := [.int (F_X1_i ii), .ref hG]) (bytes := cX7_wordSum) (maxL := 5) (rty := (some .long)) (n := 3) C0 (c_X7_wordSum l dC dI cI cJ (F_X1_op iop) (F_X6_x (F_X1_j ij) gv) (F_X6_x (F_X1_k ik) gv)) ⟨rfl, rfl, rfl, by decide +kernel, by decide, by decide⟩ ggX7_apply_X7_wordSum mm_X7_apply_iX7 mm_X7_apply_l47 mm_X7_apply_tX7_wordSum (hP.sub (ws' := []) [] rfl) hK hl.1 rfl rfl (Nat.le_of_ble_eq_true rfl) dX7_apply_115 ⟨Nat.zero_le _, Nat.zero_le _⟩ ?_
    refine wrVv (As := [.int (F_X1_i ii), .long (F_X7_wordSum (F_X1_op iop) (F_X6_x (F_X1_j ij) gv) (F_X6_x (F_X1_k ik) gv))]) (rest := []) (bytes := cX6_set) (maxL := 4) (rty := none) (n := 2) (ci := 4) C0 (c_X6_set l dC dI cI cJ hG g1 (F_X1_i ii) (F_X7_wordSum (F_X1_op iop) (F_X6_x (F_X1_j ij) gv) (F_X6_x (F_X1_k ik) gv)) gv (by first | exact R8.x hi | exact R8.x hj | exact R8.x hk | exact R8.b hi | exact R8.b hj | exact R8.b hk | exact R8.a hi | exact R8.a hj | exact R8.a hk)) ⟨rfl, rfl, rfl, by decide +kernel, by decide, by decide⟩ ggX7_apply_X6_set mm_X7_apply_iX6 mm_X7_apply_l39 mm_X7_apply_nX6_set mm_X7_apply_sX6_set rfl rfl hP hD hK hS hA (Zs.no _ _ _) [1, 2] [0, 3, 4] [0, 3, 4, 1, 2] [(hI, .inr (1, [.int iop, .int ii, .int ij, .int ik, .int ic, .int ip, .int iu, .ref hN, .ref hR])), (hM, .inr (2, [.ref m1, .ref m2])), (m1, .inl (cJ, 512, .inr (.inl mw)))] [(hI, .inr (1, [.int iop, .int ii, .int ij, .int ik, .int ic, .int ip, .int iu, .ref hN, .ref hR])), (hG, .inr (4, [.ref g1])), (g1, .inl (cJ, 24, .inr (.inl (F_X6_set (F_X1_i ii) (F_X7_wordSum (F_X1_op iop) (F_X6_x (F_X1_j ij) gv) (F_X6_x (F_X1_k ik) gv)) gv)))), (hM, .inr (2, [.ref m1, .ref m2])), (m1, .inl (cJ, 512, .inr (.inl mw)))] rfl (by decide) (hP.sub (ws' := [(hG, .inr (4, [.ref g1])), (g1, .inl (cJ, 24, .inr (.inl gv)))]) [1, 2] rfl) rfl (by decide) (by decide) (by decide) rfl hl.1 rfl rfl (Nat.le_of_ble_eq_true rfl) dX7_apply_118 ⟨Nat.zero_le _, Nat.zero_le _⟩ (fun H locs hP hD hS => ?_)
    refine lv_goto (tgt := 156) hx hb dX7_apply_121 (by decide) ?_
    have e9 : (F_X7_apply iop ii ij ik ic iu gv mw ) = ((F_X6_set (F_X1_i ii) (F_X7_wordSum (F_X1_op iop) (F_X6_x (F_X1_j ij) gv) (F_X6_x (F_X1_k ik) gv)) gv), mw) := by rw [F_X7_apply, if_neg c1, if_neg c2, if_pos c3]
    rw [e9] at hV
    subst hV
    exact wrRetV C0 hK hP hD hS dX7_apply_156
  by_cases c4 : (F_X1_unit iu) = (3 : Int32)
  · refine lv_tableIn (tgt := 124) hx hb dX7_apply_4 (by rw [c4]; decide) (by rw [c4]; decide) (by rw [c4]; rfl) (by decide) ?_
    refine lv_aload_n hx hb dX7_apply_124 rfl (lv_at hl 1 rfl) ?_
    refine lv_aload_n hx hb dX7_apply_125 rfl (lv_at hl 0 rfl) ?_
    refine roVi (As := []) (rest := [.ref hG]) (bytes := cX1_i) (maxL := 1) (rty := (some .int)) (n := 0) (ci := 1) C0 (c_X1_i l dC dI cI cJ hI hN hR iop ii ij ik ic ip iu) ⟨rfl, rfl, rfl, by decide +kernel, by decide, by decide⟩ ggX7_apply_X1_i mm_X7_apply_iX1 mm_X7_apply_l15 mm_X7_apply_nX1_i mm_X7_apply_sX1_i rfl rfl (hP.sub (ws' := [(hI, .inr (1, [.int iop, .int ii, .int ij, .int ik, .int ic, .int ip, .int iu, .ref hN, .ref hR]))]) [0] rfl) hK hl.1 rfl rfl (Nat.le_of_ble_eq_true rfl) dX7_apply_126 ⟨Nat.zero_le _, Nat.zero_le _⟩ ?_
    refine lv_aload_n hx hb dX7_apply_129 rfl (lv_at hl 1 rfl) ?_
    refine lv_aload_n hx hb dX7_apply_130 rfl (lv_at hl 0 rfl) ?_
    refine roVi (As := []) (rest := [.ref hG, .int (F_X1_i ii), .ref hG]) (bytes := cX1_k) (maxL := 1) (rty := (some .int)) (n := 0) (ci := 1) C0 (c_X1_k l dC dI cI cJ hI hN hR iop ii ij ik ic ip iu) ⟨rfl, rfl, rfl, by decide +kernel, by decide, by decide⟩ ggX7_apply_X1_k mm_X7_apply_iX1 mm_X7_apply_l30 mm_X7_apply_nX1_k mm_X7_apply_sX1_k rfl rfl (hP.sub (ws' := [(hI, .inr (1, [.int iop, .int ii, .int ij, .int ik, .int ic, .int ip, .int iu, .ref hN, .ref hR]))]) [0] rfl) hK hl.1 rfl rfl (Nat.le_of_ble_eq_true rfl) dX7_apply_131 ⟨Nat.zero_le _, Nat.zero_le _⟩ ?_
    refine roVl (As := [.int (F_X1_k ik)]) (rest := [.int (F_X1_i ii), .ref hG]) (bytes := cX6_x) (maxL := 2) (rty := (some .long)) (n := 1) (ci := 4) C0 (c_X6_x l dC dI cI cJ hG g1 (F_X1_k ik) gv (by first | exact R8.x hi | exact R8.x hj | exact R8.x hk | exact R8.b hi | exact R8.b hj | exact R8.b hk | exact R8.a hi | exact R8.a hj | exact R8.a hk)) ⟨rfl, rfl, rfl, by decide +kernel, by decide, by decide⟩ ggX7_apply_X6_x mm_X7_apply_iX6 mm_X7_apply_l24 mm_X7_apply_nX6_x mm_X7_apply_sX6_x rfl rfl (hP.sub (ws' := [(hG, .inr (4, [.ref g1])), (g1, .inl (cJ, 24, .inr (.inl gv)))]) [1, 2] rfl) hK hl.1 rfl rfl (Nat.le_of_ble_eq_true rfl) dX7_apply_134 ⟨Nat.zero_le _, Nat.zero_le _⟩ ?_
    refine roSi (As := [.long (F_X6_x (F_X1_k ik) gv)]) (rest := [.int (F_X1_i ii), .ref hG]) (bytes := cJ13_bitCount_95d88) (maxL := 2) (rty := (some .int)) (n := 1) C0 (c_J13_bitCount_95d88 l dC dI cI cJ (F_X6_x (F_X1_k ik) gv)) ⟨rfl, rfl, rfl, by decide +kernel, by decide, by decide⟩ ggX7_apply_J13_bitCount_95d88 mm_X7_apply_iJ13 mm_X7_apply_l50 mm_X7_apply_tJ13_bitCount_95d88 (hP.sub (ws' := []) [] rfl) hK hl.1 rfl rfl (Nat.le_of_ble_eq_true rfl) dX7_apply_137 ⟨Nat.zero_le _, Nat.zero_le _⟩ ?_
    refine lv_i2l hx hb dX7_apply_140 rfl ?_
    refine wrVv (As := [.int (F_X1_i ii), .long (F_J13_bitCount_95d88 (F_X6_x (F_X1_k ik) gv)).toInt64]) (rest := []) (bytes := cX6_set) (maxL := 4) (rty := none) (n := 2) (ci := 4) C0 (c_X6_set l dC dI cI cJ hG g1 (F_X1_i ii) ((F_J13_bitCount_95d88 (F_X6_x (F_X1_k ik) gv)).toInt64) gv (by first | exact R8.x hi | exact R8.x hj | exact R8.x hk | exact R8.b hi | exact R8.b hj | exact R8.b hk | exact R8.a hi | exact R8.a hj | exact R8.a hk)) ⟨rfl, rfl, rfl, by decide +kernel, by decide, by decide⟩ ggX7_apply_X6_set mm_X7_apply_iX6 mm_X7_apply_l39 mm_X7_apply_nX6_set mm_X7_apply_sX6_set rfl rfl hP hD hK hS hA (Zs.no _ _ _) [1, 2] [0, 3, 4] [0, 3, 4, 1, 2] [(hI, .inr (1, [.int iop, .int ii, .int ij, .int ik, .int ic, .int ip, .int iu, .ref hN, .ref hR])), (hM, .inr (2, [.ref m1, .ref m2])), (m1, .inl (cJ, 512, .inr (.inl mw)))] [(hI, .inr (1, [.int iop, .int ii, .int ij, .int ik, .int ic, .int ip, .int iu, .ref hN, .ref hR])), (hG, .inr (4, [.ref g1])), (g1, .inl (cJ, 24, .inr (.inl (F_X6_set (F_X1_i ii) ((F_J13_bitCount_95d88 (F_X6_x (F_X1_k ik) gv)).toInt64) gv)))), (hM, .inr (2, [.ref m1, .ref m2])), (m1, .inl (cJ, 512, .inr (.inl mw)))] rfl (by decide) (hP.sub (ws' := [(hG, .inr (4, [.ref g1])), (g1, .inl (cJ, 24, .inr (.inl gv)))]) [1, 2] rfl) rfl (by decide) (by decide) (by decide) rfl hl.1 rfl rfl (Nat.le_of_ble_eq_true rfl) dX7_apply_141 ⟨Nat.zero_le _, Nat.zero_le _⟩ (fun H locs hP hD hS => ?_)
    refine lv_goto (tgt := 156) hx hb dX7_apply_144 (by decide) ?_
    have e9 : (F_X7_apply iop ii ij ik ic iu gv mw ) = ((F_X6_set (F_X1_i ii) ((F_J13_bitCount_95d88 (F_X6_x (F_X1_k ik) gv)).toInt64) gv), mw) := by rw [F_X7_apply, if_neg c1, if_neg c2, if_neg c3, if_pos c4]
    rw [e9] at hV
    subst hV
    exact wrRetV C0 hK hP hD hS dX7_apply_156
  by_cases c5 : (F_X1_unit iu) = (4 : Int32)
  · refine lv_tableIn (tgt := 147) hx hb dX7_apply_4 (by rw [c5]; decide) (by rw [c5]; decide) (by rw [c5]; rfl) (by decide) ?_
    refine lv_aload_n hx hb dX7_apply_147 rfl (lv_at hl 0 rfl) ?_
    refine lv_aload_n hx hb dX7_apply_148 rfl (lv_at hl 1 rfl) ?_
    refine lv_aload_n hx hb dX7_apply_149 rfl (lv_at hl 2 rfl) ?_
    refine wrSv (As := [.ref hI, .ref hG, .ref hM]) (rest := []) (bytes := cX7_applyAddress) (maxL := 6) (rty := none) (n := 3) C0 (c_X7_applyAddress l dC dI cI cJ hI hG g1 hM m1 hN hR m2 iop ii ij ik ic ip iu gv mw hi hj hk) ⟨rfl, rfl, rfl, by decide +kernel, by decide, by decide⟩ ggX7_apply_X7_applyAddress mm_X7_apply_iX7 mm_X7_apply_l56 mm_X7_apply_tX7_applyAddress hP hD hK hS hA (Zs.no _ _ _) [0, 1, 2, 3, 4] [] [0, 1, 2, 3, 4] [] [(hI, .inr (1, [.int iop, .int ii, .int ij, .int ik, .int ic, .int ip, .int iu, .ref hN, .ref hR])), (hG, .inr (4, [.ref g1])), (g1, .inl (cJ, 24, .inr (.inl ((F_X7_applyAddress iop ii ij ik ic gv mw).1)))), (hM, .inr (2, [.ref m1, .ref m2])), (m1, .inl (cJ, 512, .inr (.inl ((F_X7_applyAddress iop ii ij ik ic gv mw).2))))] rfl (by decide) (hP.sub (ws' := [(hI, .inr (1, [.int iop, .int ii, .int ij, .int ik, .int ic, .int ip, .int iu, .ref hN, .ref hR])), (hG, .inr (4, [.ref g1])), (g1, .inl (cJ, 24, .inr (.inl gv))), (hM, .inr (2, [.ref m1, .ref m2])), (m1, .inl (cJ, 512, .inr (.inl mw)))]) [0, 1, 2, 3, 4] rfl) rfl (by decide) (by decide) (by decide) rfl hl.1 rfl rfl (Nat.le_of_ble_eq_true rfl) dX7_apply_150 ⟨Nat.zero_le _, Nat.zero_le _⟩ (fun H locs hP hD hS => ?_)
    refine lv_goto (tgt := 156) hx hb dX7_apply_153 (by decide) ?_
    have e9 : (F_X7_apply iop ii ij ik ic iu gv mw ) = (((F_X7_applyAddress iop ii ij ik ic gv mw).1), ((F_X7_applyAddress iop ii ij ik ic gv mw).2)) := by rw [F_X7_apply, if_neg c1, if_neg c2, if_neg c3, if_neg c4, if_pos c5]
    rw [e9] at hV
    subst hV
    exact wrRetV C0 hK hP hD hS dX7_apply_156
  refine lv_tableOut (tgt := 156) hx hb dX7_apply_4 (by have q0 := lv_neT (a := 0) c1 (by decide); have q1 := lv_neT (a := 1) c2 (by decide); have q2 := lv_neT (a := 2) c3 (by decide); have q3 := lv_neT (a := 3) c4 (by decide); have q4 := lv_neT (a := 4) c5 (by decide); omega) (by decide) ?_
  have e9 : (F_X7_apply iop ii ij ik ic iu gv mw ) = (gv, mw) := by rw [F_X7_apply, if_neg c1, if_neg c2, if_neg c3, if_neg c4, if_neg c5]
  rw [e9] at hV
  subst hV
  exact wrRetV C0 hK hP hD hS dX7_apply_156
theorem c_X7_apply (l : Launch) (dC : Nat → ClassId) (dI : Nat → Nat → Nat) (cI cJ : ClassId) (hI hG g1 hM m1 hN hR m2 : Nat) (iop : Int32) (ii : Int32) (ij : Int32) (ik : Int32) (ic : Int32) (ip : Int32) (iu : Int32) (gv : Nat → Int64) (mw : Nat → Int64) (hi : R8 ii) (hj : R8 ij) (hk : R8 ik) : WrV false l yX7_apply wsX7_apply rm_X7_apply (dC, dI) [(cI, .int), (cJ, .long)] [(hI, .inr (1, [.int iop, .int ii, .int ij, .int ik, .int ic, .int ip, .int iu, .ref hN, .ref hR])), (hG, .inr (4, [.ref g1])), (g1, .inl (cJ, 24, .inr (.inl gv))), (hM, .inr (2, [.ref m1, .ref m2])), (m1, .inl (cJ, 512, .inr (.inl mw)))] [(hI, .inr (1, [.int iop, .int ii, .int ij, .int ik, .int ic, .int ip, .int iu, .ref hN, .ref hR])), (hG, .inr (4, [.ref g1])), (g1, .inl (cJ, 24, .inr (.inl ((F_X7_apply iop ii ij ik ic iu gv mw ).1)))), (hM, .inr (2, [.ref m1, .ref m2])), (m1, .inl (cJ, 512, .inr (.inl ((F_X7_apply iop ii ij ik ic iu gv mw ).2))))] [.ref hI, .ref hG, .ref hM] := by
  refine WrV.mk (cc := cX7_apply) (nL := 3) (ret := none) [(0, .ref hI), (1, .ref hG), (2, .ref hM)] (by decide) rfl (Nat.le_of_ble_eq_true rfl) rfl ?_
  intro p e s m below meth c C0 hP hK hD hS hZ ls hl
  exact w_X7_apply dC dI cI cJ hI hG g1 hM m1 hN hR m2 iop ii ij ik ic ip iu gv mw C0 hK hZ hi hj hk rfl ls hl hP hD hS
