-- X7_logic
def F_X7_logic (o : Int32) (a : Int64) (b : Int64) : Int64 :=
  (if o = (8 : Int32) then a else (if o = (9 : Int32) then (a &&& b) else (if o = (10 : Int32) then (a ||| b) else (if o = (11 : Int32) then (a ^^^ b) else (if o = (12 : Int32) then (b ^^^ (-1 : Int64)) else (if o = (13 : Int32) then (a &&& (b ^^^ (-1 : Int64))) else (if o = (14 : Int32) then (a ||| (b ^^^ (-1 : Int64))) else (a ^^^ (b ^^^ (-1 : Int64))))))))))
abbrev rm_X7_logic : Room := { frames := 0, cells := 0, slots := 0, locals := 0 }
set_option maxRecDepth 20000 in
theorem mm_X7_logic_k60 : Cond.constantLong RX7 60 (-1) ∈ wsX7_logic := by decide +kernel
set_option maxHeartbeats 4000000 in
set_option maxRecDepth 100000 in
theorem w_X7_logic {p : Program} {l : Launch} {e : Env} {s : State} {m : MethodId} {below : List Frame} {meth : Method} {c : Code} {args : Array Value} (dC : Nat → ClassId) (dI : Nat → Nat → Nat) (cI cJ : ClassId) (o : Int32) (a : Int64) (b : Int64) (C0 : Cx p s m meth c cX7_logic 5 (some .long) wsX7_logic RX7 args) (hK : va_K (dC, dI) vwCl [(cI, .int), (cJ, .long)] s) (hP : va_P (dC, dI) vwCl [] s.heap) {V : Int64} (hV : (F_X7_logic o a b ) = V) (ls : Array Slot) (hl : lv_has ls 5 [(0, .int o), (1, .long a), (3, .long b)]) : W p l e rm_X7_logic s m args below meth c s.heap [] 0 0 (MQ below (vp_Sl (fun r => r = V)) args s 0 0 (fun _ => False)) (F0 m 0 ls []) := by
  obtain ⟨hx, hb, hr, hlk, hml, hown, hts⟩ := id C0
  refine lv_iload_n hx hb dX7_logic_0 rfl (lv_at hl 0 rfl) ?_
  by_cases c1 : o = (8 : Int32)
  · refine lv_tableIn (tgt := 44) hx hb dX7_logic_1 (by rw [c1]; decide) (by rw [c1]; decide) (by rw [c1]; rfl) (by decide) ?_
    refine lv_lload_n hx hb dX7_logic_44 rfl (lv_at hl 1 rfl) ?_
    have e9 : (F_X7_logic o a b ) = a := by rw [F_X7_logic, if_pos c1]
    rw [e9] at hV
    subst hV
    exact roRetL C0 rfl dX7_logic_45
  by_cases c2 : o = (9 : Int32)
  · refine lv_tableIn (tgt := 46) hx hb dX7_logic_1 (by rw [c2]; decide) (by rw [c2]; decide) (by rw [c2]; rfl) (by decide) ?_
    refine lv_lload_n hx hb dX7_logic_46 rfl (lv_at hl 1 rfl) ?_
    refine lv_lload_n hx hb dX7_logic_47 rfl (lv_at hl 2 rfl) ?_
    refine lv_land hx hb dX7_logic_48 ?_
    have e9 : (F_X7_logic o a b ) = (a &&& b) := by rw [F_X7_logic, if_neg c1, if_pos c2]
    rw [e9] at hV
    subst hV
    exact roRetL C0 rfl dX7_logic_49
  by_cases c3 : o = (10 : Int32)
  · refine lv_tableIn (tgt := 50) hx hb dX7_logic_1 (by rw [c3]; decide) (by rw [c3]; decide) (by rw [c3]; rfl) (by decide) ?_
    refine lv_lload_n hx hb dX7_logic_50 rfl (lv_at hl 1 rfl) ?_
    refine lv_lload_n hx hb dX7_logic_51 rfl (lv_at hl 2 rfl) ?_
    refine lv_lor hx hb dX7_logic_52 ?_
    have e9 : (F_X7_logic o a b ) = (a ||| b) := by rw [F_X7_logic, if_neg c1, if_neg c2, if_pos c3]
    rw [e9] at hV
    subst hV
    exact roRetL C0 rfl dX7_logic_53
  by_cases c4 : o = (11 : Int32)
  · refine lv_tableIn (tgt := 54) hx hb dX7_logic_1 (by rw [c4]; decide) (by rw [c4]; decide) (by rw [c4]; rfl) (by decide) ?_
    refine lv_lload_n hx hb dX7_logic_54 rfl (lv_at hl 1 rfl) ?_
    refine lv_lload_n hx hb dX7_logic_55 rfl (lv_at hl 2 rfl) ?_
    refine lv_lxor hx hb dX7_logic_56 ?_
    have e9 : (F_X7_logic o a b ) = (a ^^^ b) := by rw [F_X7_logic, if_neg c1, if_neg c2, if_neg c3, if_pos c4]
    rw [e9] at hV
    subst hV
    exact roRetL C0 rfl dX7_logic_57
  by_cases c5 : o = (12 : Int32)
  · refine lv_tableIn (tgt := 58) hx hb dX7_logic_1 (by rw [c5]; decide) (by rw [c5]; decide) (by rw [c5]; rfl) (by decide) ?_
    refine lv_lload_n hx hb dX7_logic_58 rfl (lv_at hl 2 rfl) ?_
    refine lv_ldc2 (v := (-1 : Int64)) hx hb hown (hts _ mm_X7_logic_k60) dX7_logic_59 ?_
    refine lv_lxor hx hb dX7_logic_62 ?_
    have e9 : (F_X7_logic o a b ) = (b ^^^ (-1 : Int64)) := by rw [F_X7_logic, if_neg c1, if_neg c2, if_neg c3, if_neg c4, if_pos c5]
    rw [e9] at hV
    subst hV
    exact roRetL C0 rfl dX7_logic_63
  by_cases c6 : o = (13 : Int32)
  · refine lv_tableIn (tgt := 64) hx hb dX7_logic_1 (by rw [c6]; decide) (by rw [c6]; decide) (by rw [c6]; rfl) (by decide) ?_
    refine lv_lload_n hx hb dX7_logic_64 rfl (lv_at hl 1 rfl) ?_
    refine lv_lload_n hx hb dX7_logic_65 rfl (lv_at hl 2 rfl) ?_
    refine lv_ldc2 (v := (-1 : Int64)) hx hb hown (hts _ mm_X7_logic_k60) dX7_logic_66 ?_
    refine lv_lxor hx hb dX7_logic_69 ?_
    refine lv_land hx hb dX7_logic_70 ?_
    have e9 : (F_X7_logic o a b ) = (a &&& (b ^^^ (-1 : Int64))) := by rw [F_X7_logic, if_neg c1, if_neg c2, if_neg c3, if_neg c4, if_neg c5, if_pos c6]
    rw [e9] at hV
    subst hV
    exact roRetL C0 rfl dX7_logic_71
  by_cases c7 : o = (14 : Int32)
  · refine lv_tableIn (tgt := 72) hx hb dX7_logic_1 (by rw [c7]; decide) (by rw [c7]; decide) (by rw [c7]; rfl) (by decide) ?_
    refine lv_lload_n hx hb dX7_logic_72 rfl (lv_at hl 1 rfl) ?_
    refine lv_lload_n hx hb dX7_logic_73 rfl (lv_at hl 2 rfl) ?_
    refine lv_ldc2 (v := (-1 : Int64)) hx hb hown (hts _ mm_X7_logic_k60) dX7_logic_74 ?_
    refine lv_lxor hx hb dX7_logic_77 ?_
    refine lv_lor hx hb dX7_logic_78 ?_
    have e9 : (F_X7_logic o a b ) = (a ||| (b ^^^ (-1 : Int64))) := by rw [F_X7_logic, if_neg c1, if_neg c2, if_neg c3, if_neg c4, if_neg c5, if_neg c6, if_pos c7]
    rw [e9] at hV
    subst hV
    exact roRetL C0 rfl dX7_logic_79
  refine lv_tableOut (tgt := 80) hx hb dX7_logic_1 (by have q8 := lv_neT (a := 8) c1 (by decide); have q9 := lv_neT (a := 9) c2 (by decide); have q10 := lv_neT (a := 10) c3 (by decide); have q11 := lv_neT (a := 11) c4 (by decide); have q12 := lv_neT (a := 12) c5 (by decide); have q13 := lv_neT (a := 13) c6 (by decide); have q14 := lv_neT (a := 14) c7 (by decide); omega) (by decide) ?_
  refine lv_lload_n hx hb dX7_logic_80 rfl (lv_at hl 1 rfl) ?_
  refine lv_lload_n hx hb dX7_logic_81 rfl (lv_at hl 2 rfl) ?_
  refine lv_ldc2 (v := (-1 : Int64)) hx hb hown (hts _ mm_X7_logic_k60) dX7_logic_82 ?_
  refine lv_lxor hx hb dX7_logic_85 ?_
  refine lv_lxor hx hb dX7_logic_86 ?_
  have e9 : (F_X7_logic o a b ) = (a ^^^ (b ^^^ (-1 : Int64))) := by rw [F_X7_logic, if_neg c1, if_neg c2, if_neg c3, if_neg c4, if_neg c5, if_neg c6, if_neg c7]
  rw [e9] at hV
  subst hV
  exact roRetL C0 rfl dX7_logic_87
theorem c_X7_logic (l : Launch) (dC : Nat → ClassId) (dI : Nat → Nat → Nat) (cI cJ : ClassId) (o : Int32) (a : Int64) (b : Int64) : RoL l yX7_logic wsX7_logic rm_X7_logic (dC, dI) [(cI, .int), (cJ, .long)] [] [.int o, .long a, .long b] (F_X7_logic o a b ) := by
  refine RoL.mk (cc := cX7_logic) (nL := 5) (ret := (some .long)) [(0, .int o), (1, .long a), (3, .long b)] (by decide) rfl (Nat.le_of_ble_eq_true rfl) rfl ?_
  intro p e s m below meth c C0 hP hK ls hl
  exact w_X7_logic dC dI cI cJ o a b C0 hK hP rfl ls hl

-- X7_shiftBy
def F_X7_shiftBy_20 (v0 : Int64) (v4 : Int32) (v5 : Int32) (t0 : Int64) : Int64 :=
  (if v4 = v5 then (F_X4_shiftedRight v0 (t0.toInt32 &&& (63 : Int32))) else (F_X4_turnedRoundLeft v0 (t0.toInt32 &&& (63 : Int32))))
def F_X7_shiftBy (a : Int64) (b : Int64) (le : Int32) : Int64 :=
  (if (F_X4_isShortNegative b) = 0 then (F_X7_shiftBy_20 a le (F_X4_isShortNegative b) b) else (F_X7_shiftBy_20 a le (F_X4_isShortNegative b) (b ^^^ (-1 : Int64))))
abbrev rm_X7_shiftBy : Room := { frames := 2, cells := 0, slots := 0, locals := 45 }
set_option maxRecDepth 20000 in
theorem mm_X7_shiftBy_iX4 : Cond.initialized RX4 ∈ wsX7_shiftBy := by decide +kernel
set_option maxRecDepth 20000 in
theorem mm_X7_shiftBy_k60 : Cond.constantLong RX7 60 (-1) ∈ wsX7_shiftBy := by decide +kernel
set_option maxRecDepth 20000 in
theorem mm_X7_shiftBy_l65 : Cond.methodLink RX7 65 yX4_turnedRoundLeft ∈ wsX7_shiftBy := by decide +kernel
set_option maxRecDepth 20000 in
theorem mm_X7_shiftBy_l71 : Cond.methodLink RX7 71 yX4_shiftedRight ∈ wsX7_shiftBy := by decide +kernel
set_option maxRecDepth 20000 in
theorem mm_X7_shiftBy_l84 : Cond.methodLink RX7 84 yX4_isShortNegative ∈ wsX7_shiftBy := by decide +kernel
set_option maxRecDepth 20000 in
theorem mm_X7_shiftBy_tX4_isShortNegative : Cond.static yX4_isShortNegative ∈ wsX7_shiftBy := by decide +kernel
set_option maxRecDepth 20000 in
theorem mm_X7_shiftBy_tX4_shiftedRight : Cond.static yX4_shiftedRight ∈ wsX7_shiftBy := by decide +kernel
set_option maxRecDepth 20000 in
theorem mm_X7_shiftBy_tX4_turnedRoundLeft : Cond.static yX4_turnedRoundLeft ∈ wsX7_shiftBy := by decide +kernel
set_option maxHeartbeats 4000000 in
set_option maxRecDepth 100000 in
theorem j_X7_shiftBy_20 {p : Program} {l : Launch} {e : Env} {s : State} {m : MethodId} {below : List Frame} {meth : Method} {c : Code} {args : Array Value} (dC : Nat → ClassId) (dI : Nat → Nat → Nat) (cI cJ : ClassId) (a : Int64) (b : Int64) (le : Int32) (C0 : Cx p s m meth c cX7_shiftBy 7 (some .long) wsX7_shiftBy RX7 args) (hK : va_K (dC, dI) vwCl [(cI, .int), (cJ, .long)] s) (hP : va_P (dC, dI) vwCl [] s.heap) (v0 : Int64) (v4 : Int32) (v5 : Int32) (t0 : Int64) {V : Int64} (hV : (F_X7_shiftBy_20 v0 v4 v5 t0) = V) (ls : Array Slot) (hl : lv_has ls 7 [(0, .long v0), (4, .int v4), (5, .int v5)]) : W p l e rm_X7_shiftBy s m args below meth c s.heap [] 0 0 (MQ below (vp_Sl (fun r => r = V)) args s 0 0 (fun _ => False)) (F0 m 20 ls [.long t0]) := by
  obtain ⟨hx, hb, hr, hlk, hml, hown, hts⟩ := id C0
  refine lv_l2i hx hb dX7_shiftBy_20 rfl ?_
  refine lv_bipush (v := (63 : Int32)) hx hb dX7_shiftBy_21 (by decide) ?_
  refine lv_iand hx hb dX7_shiftBy_23 ?_
  refine lv_istore (lv' := [(6, .int (t0.toInt32 &&& (63 : Int32))), (0, .long v0), (4, .int v4), (5, .int v5)]) hx hb dX7_shiftBy_24 hl (by decide) rfl (fun ls hl => ?_)
  refine lv_iload hx hb dX7_shiftBy_26 (lv_at hl 2 rfl) ?_
  refine lv_iload hx hb dX7_shiftBy_28 (lv_at hl 3 rfl) ?_
  refine lv_icmp_eq (x := v4) (y := v5) (tgt := 42) hx hb dX7_shiftBy_30 (by decide) (fun c1 => ?_) (fun c1 => ?_)
  · refine lv_lload_n hx hb dX7_shiftBy_42 rfl (lv_at hl 1 rfl) ?_
    refine lv_iload hx hb dX7_shiftBy_43 (lv_at hl 0 rfl) ?_
    refine roSl (As := [.long v0, .int (t0.toInt32 &&& (63 : Int32))]) (rest := []) (bytes := cX4_shiftedRight) (maxL := 5) (rty := (some .long)) (n := 2) C0 (c_X4_shiftedRight l dC dI cI cJ v0 (t0.toInt32 &&& (63 : Int32))) ⟨rfl, rfl, rfl, by decide +kernel, by decide, by decide⟩ ggX7_shiftBy_X4_shiftedRight mm_X7_shiftBy_iX4 mm_X7_shiftBy_l71 mm_X7_shiftBy_tX4_shiftedRight (hP.sub (ws' := []) [] rfl) hK hl.1 rfl rfl (Nat.le_of_ble_eq_true rfl) dX7_shiftBy_45 ⟨Nat.zero_le _, Nat.zero_le _⟩ ?_
    have e9 : (F_X7_shiftBy_20 v0 v4 v5 t0) = (F_X4_shiftedRight v0 (t0.toInt32 &&& (63 : Int32))) := by rw [F_X7_shiftBy_20, if_pos c1]
    rw [e9] at hV
    subst hV
    exact roRetL C0 rfl dX7_shiftBy_48
  · refine lv_lload_n hx hb dX7_shiftBy_33 rfl (lv_at hl 1 rfl) ?_
    refine lv_iload hx hb dX7_shiftBy_34 (lv_at hl 0 rfl) ?_
    refine roSl (As := [.long v0, .int (t0.toInt32 &&& (63 : Int32))]) (rest := []) (bytes := cX4_turnedRoundLeft) (maxL := 4) (rty := (some .long)) (n := 2) C0 (c_X4_turnedRoundLeft l dC dI cI cJ v0 (t0.toInt32 &&& (63 : Int32))) ⟨rfl, rfl, rfl, by decide +kernel, by decide, by decide⟩ ggX7_shiftBy_X4_turnedRoundLeft mm_X7_shiftBy_iX4 mm_X7_shiftBy_l65 mm_X7_shiftBy_tX4_turnedRoundLeft (hP.sub (ws' := []) [] rfl) hK hl.1 rfl rfl (Nat.le_of_ble_eq_true rfl) dX7_shiftBy_36 ⟨Nat.zero_le _, Nat.zero_le _⟩ ?_
    refine lv_goto (tgt := 48) hx hb dX7_shiftBy_39 (by decide) ?_
    have e9 : (F_X7_shiftBy_20 v0 v4 v5 t0) = (F_X4_turnedRoundLeft v0 (t0.toInt32 &&& (63 : Int32))) := by rw [F_X7_shiftBy_20, if_neg c1]
    rw [e9] at hV
    subst hV
    exact roRetL C0 rfl dX7_shiftBy_48
set_option maxHeartbeats 4000000 in
set_option maxRecDepth 100000 in
theorem w_X7_shiftBy {p : Program} {l : Launch} {e : Env} {s : State} {m : MethodId} {below : List Frame} {meth : Method} {c : Code} {args : Array Value} (dC : Nat → ClassId) (dI : Nat → Nat → Nat) (cI cJ : ClassId) (a : Int64) (b : Int64) (le : Int32) (C0 : Cx p s m meth c cX7_shiftBy 7 (some .long) wsX7_shiftBy RX7 args) (hK : va_K (dC, dI) vwCl [(cI, .int), (cJ, .long)] s) (hP : va_P (dC, dI) vwCl [] s.heap) {V : Int64} (hV : (F_X7_shiftBy a b le ) = V) (ls : Array Slot) (hl : lv_has ls 7 [(0, .long a), (2, .long b), (4, .int le)]) : W p l e rm_X7_shiftBy s m args below meth c s.heap [] 0 0 (MQ below (vp_Sl (fun r => r = V)) args s 0 0 (fun _ => False)) (F0 m 0 ls []) := by
  obtain ⟨hx, hb, hr, hlk, hml, hown, hts⟩ := id C0
  refine lv_lload_n hx hb dX7_shiftBy_0 rfl (lv_at hl 1 rfl) ?_
  refine roSi (As := [.long b]) (rest := []) (bytes := cX4_isShortNegative) (maxL := 2) (rty := (some .boolean)) (n := 1) C0 (c_X4_isShortNegative l dC dI cI cJ b) ⟨rfl, rfl, rfl, by decide +kernel, by decide, by decide⟩ ggX7_shiftBy_X4_isShortNegative mm_X7_shiftBy_iX4 mm_X7_shiftBy_l84 mm_X7_shiftBy_tX4_isShortNegative (hP.sub (ws' := []) [] rfl) hK hl.1 rfl rfl (Nat.le_of_ble_eq_true rfl) dX7_shiftBy_1 ⟨Nat.zero_le _, Nat.zero_le _⟩ ?_
  refine lv_istore (lv' := [(5, .int (F_X4_isShortNegative b)), (0, .long a), (2, .long b), (4, .int le)]) hx hb dX7_shiftBy_4 hl (by decide) rfl (fun ls hl => ?_)
  refine lv_iload hx hb dX7_shiftBy_6 (lv_at hl 0 rfl) ?_
  refine lv_if_eq (x := (F_X4_isShortNegative b)) (tgt := 19) hx hb dX7_shiftBy_8 (by decide) (fun c1 => ?_) (fun c1 => ?_)
  · refine lv_lload_n hx hb dX7_shiftBy_19 rfl (lv_at hl 2 rfl) ?_
    have e9 : (F_X7_shiftBy a b le ) = (F_X7_shiftBy_20 a le (F_X4_isShortNegative b) b) := by rw [F_X7_shiftBy, if_pos c1]
    rw [e9] at hV
    exact j_X7_shiftBy_20 dC dI cI cJ a b le C0 hK hP a le (F_X4_isShortNegative b) b hV ls (lv_sub hl [1, 3, 0] rfl)
  · refine lv_lload_n hx hb dX7_shiftBy_11 rfl (lv_at hl 2 rfl) ?_
    refine lv_ldc2 (v := (-1 : Int64)) hx hb hown (hts _ mm_X7_shiftBy_k60) dX7_shiftBy_12 ?_
    refine lv_lxor hx hb dX7_shiftBy_15 ?_
    refine lv_goto (tgt := 20) hx hb dX7_shiftBy_16 (by decide) ?_
    have e9 : (F_X7_shiftBy a b le ) = (F_X7_shiftBy_20 a le (F_X4_isShortNegative b) (b ^^^ (-1 : Int64))) := by rw [F_X7_shiftBy, if_neg c1]
    rw [e9] at hV
    exact j_X7_shiftBy_20 dC dI cI cJ a b le C0 hK hP a le (F_X4_isShortNegative b) (b ^^^ (-1 : Int64)) hV ls (lv_sub hl [1, 3, 0] rfl)
theorem c_X7_shiftBy (l : Launch) (dC : Nat → ClassId) (dI : Nat → Nat → Nat) (cI cJ : ClassId) (a : Int64) (b : Int64) (le : Int32) : RoL l yX7_shiftBy wsX7_shiftBy rm_X7_shiftBy (dC, dI) [(cI, .int), (cJ, .long)] [] [.long a, .long b, .int le] (F_X7_shiftBy a b le ) := by
  refine RoL.mk (cc := cX7_shiftBy) (nL := 7) (ret := (some .long)) [(0, .long a), (2, .long b), (4, .int le)] (by decide) rfl (Nat.le_of_ble_eq_true rfl) rfl ?_
  intro p e s m below meth c C0 hP hK ls hl
  exact w_X7_shiftBy dC dI cI cJ a b le C0 hK hP rfl ls hl

-- X7_wordSum
def F_X7_wordSum (o : Int32) (a : Int64) (b : Int64) : Int64 :=
  (if o = (30 : Int32) then (F_X4_sum a b (1152921504606846975 : Int64)) else (F_X4_difference a b (1152921504606846975 : Int64)))
abbrev rm_X7_wordSum : Room := { frames := 2, cells := 0, slots := 0, locals := 53 }
set_option maxRecDepth 20000 in
theorem mm_X7_wordSum_iX4 : Cond.initialized RX4 ∈ wsX7_wordSum := by decide +kernel
set_option maxRecDepth 20000 in
theorem mm_X7_wordSum_k88 : Cond.constantLong RX7 88 (1152921504606846975) ∈ wsX7_wordSum := by decide +kernel
set_option maxRecDepth 20000 in
theorem mm_X7_wordSum_l90 : Cond.methodLink RX7 90 yX4_sum ∈ wsX7_wordSum := by decide +kernel
set_option maxRecDepth 20000 in
theorem mm_X7_wordSum_l94 : Cond.methodLink RX7 94 yX4_difference ∈ wsX7_wordSum := by decide +kernel
set_option maxRecDepth 20000 in
theorem mm_X7_wordSum_tX4_difference : Cond.static yX4_difference ∈ wsX7_wordSum := by decide +kernel
set_option maxRecDepth 20000 in
theorem mm_X7_wordSum_tX4_sum : Cond.static yX4_sum ∈ wsX7_wordSum := by decide +kernel
set_option maxHeartbeats 4000000 in
set_option maxRecDepth 100000 in
theorem w_X7_wordSum {p : Program} {l : Launch} {e : Env} {s : State} {m : MethodId} {below : List Frame} {meth : Method} {c : Code} {args : Array Value} (dC : Nat → ClassId) (dI : Nat → Nat → Nat) (cI cJ : ClassId) (o : Int32) (a : Int64) (b : Int64) (C0 : Cx p s m meth c cX7_wordSum 5 (some .long) wsX7_wordSum RX7 args) (hK : va_K (dC, dI) vwCl [(cI, .int), (cJ, .long)] s) (hP : va_P (dC, dI) vwCl [] s.heap) {V : Int64} (hV : (F_X7_wordSum o a b ) = V) (ls : Array Slot) (hl : lv_has ls 5 [(0, .int o), (1, .long a), (3, .long b)]) : W p l e rm_X7_wordSum s m args below meth c s.heap [] 0 0 (MQ below (vp_Sl (fun r => r = V)) args s 0 0 (fun _ => False)) (F0 m 0 ls []) := by
  obtain ⟨hx, hb, hr, hlk, hml, hown, hts⟩ := id C0
  refine lv_iload_n hx hb dX7_wordSum_0 rfl (lv_at hl 0 rfl) ?_
  refine lv_bipush (v := (30 : Int32)) hx hb dX7_wordSum_1 (by decide) ?_
  refine lv_icmp_ne (x := o) (y := (30 : Int32)) (tgt := 17) hx hb dX7_wordSum_3 (by decide) (fun c1 => ?_) (fun c1 => ?_)
  · refine lv_lload_n hx hb dX7_wordSum_17 rfl (lv_at hl 1 rfl) ?_
    refine lv_lload_n hx hb dX7_wordSum_18 rfl (lv_at hl 2 rfl) ?_
    refine lv_ldc2 (v := (1152921504606846975 : Int64)) hx hb hown (hts _ mm_X7_wordSum_k88) dX7_wordSum_19 ?_
    refine roSl (As := [.long a, .long b, .long (1152921504606846975 : Int64)]) (rest := []) (bytes := cX4_difference) (maxL := 6) (rty := (some .long)) (n := 3) C0 (c_X4_difference l dC dI cI cJ a b (1152921504606846975 : Int64)) ⟨rfl, rfl, rfl, by decide +kernel, by decide, by decide⟩ ggX7_wordSum_X4_difference mm_X7_wordSum_iX4 mm_X7_wordSum_l94 mm_X7_wordSum_tX4_difference (hP.sub (ws' := []) [] rfl) hK hl.1 rfl rfl (Nat.le_of_ble_eq_true rfl) dX7_wordSum_22 ⟨Nat.zero_le _, Nat.zero_le _⟩ ?_
    have e9 : (F_X7_wordSum o a b ) = (F_X4_difference a b (1152921504606846975 : Int64)) := by rw [F_X7_wordSum, if_neg c1]
    rw [e9] at hV
    subst hV
    exact roRetL C0 rfl dX7_wordSum_25
  · refine lv_lload_n hx hb dX7_wordSum_6 rfl (lv_at hl 1 rfl) ?_
    refine lv_lload_n hx hb dX7_wordSum_7 rfl (lv_at hl 2 rfl) ?_
    refine lv_ldc2 (v := (1152921504606846975 : Int64)) hx hb hown (hts _ mm_X7_wordSum_k88) dX7_wordSum_8 ?_
    refine roSl (As := [.long a, .long b, .long (1152921504606846975 : Int64)]) (rest := []) (bytes := cX4_sum) (maxL := 9) (rty := (some .long)) (n := 3) C0 (c_X4_sum l dC dI cI cJ a b (1152921504606846975 : Int64)) ⟨rfl, rfl, rfl, by decide +kernel, by decide, by decide⟩ ggX7_wordSum_X4_sum mm_X7_wordSum_iX4 mm_X7_wordSum_l90 mm_X7_wordSum_tX4_sum (hP.sub (ws' := []) [] rfl) hK hl.1 rfl rfl (Nat.le_of_ble_eq_true rfl) dX7_wordSum_11 ⟨Nat.zero_le _, Nat.zero_le _⟩ ?_
    refine lv_goto (tgt := 25) hx hb dX7_wordSum_14 (by decide) ?_
    have e9 : (F_X7_wordSum o a b ) = (F_X4_sum a b (1152921504606846975 : Int64)) := by rw [F_X7_wordSum, if_pos c1]
    rw [e9] at hV
    subst hV
    exact roRetL C0 rfl dX7_wordSum_25
theorem c_X7_wordSum (l : Launch) (dC : Nat → ClassId) (dI : Nat → Nat → Nat) (cI cJ : ClassId) (o : Int32) (a : Int64) (b : Int64) : RoL l yX7_wordSum wsX7_wordSum rm_X7_wordSum (dC, dI) [(cI, .int), (cJ, .long)] [] [.int o, .long a, .long b] (F_X7_wordSum o a b ) := by
  refine RoL.mk (cc := cX7_wordSum) (nL := 5) (ret := (some .long)) [(0, .int o), (1, .long a), (3, .long b)] (by decide) rfl (Nat.le_of_ble_eq_true rfl) rfl ?_
  intro p e s m below meth c C0 hP hK ls hl
  exact w_X7_wordSum dC dI cI cJ o a b C0 hK hP rfl ls hl

-- X7_shift
def F_X7_shift (iop : Int32) (ii : Int32) (ij : Int32) (ik : Int32) (gv : Nat → Int64) : Int64 :=
  (if (F_X1_op iop) = (16 : Int32) then (F_X4_turnedRoundLeft (F_X6_x (F_X1_i ii) gv) (F_X1_jk ij ik)) else (if (F_X1_op iop) = (17 : Int32) then (F_X4_shiftedRight (F_X6_x (F_X1_i ii) gv) (F_X1_jk ij ik)) else (if (F_X1_op iop) = (18 : Int32) then (F_X7_shiftBy (F_X6_x (F_X1_k ik) gv) (F_X6_b (F_X1_j ij) gv) (1 : Int32)) else (if (F_X1_op iop) = (19 : Int32) then (F_X7_shiftBy (F_X6_x (F_X1_k ik) gv) (F_X6_b (F_X1_j ij) gv) (0 : Int32)) else (F_X4_highestBits (F_X1_jk ij ik))))))
abbrev rm_X7_shift : Room := { frames := 3, cells := 0, slots := 0, locals := 71 }
set_option maxRecDepth 20000 in
theorem mm_X7_shift_iX1 : Cond.initialized RX1 ∈ wsX7_shift := by decide +kernel
set_option maxRecDepth 20000 in
theorem mm_X7_shift_iX4 : Cond.initialized RX4 ∈ wsX7_shift := by decide +kernel
set_option maxRecDepth 20000 in
theorem mm_X7_shift_iX6 : Cond.initialized RX6 ∈ wsX7_shift := by decide +kernel
set_option maxRecDepth 20000 in
theorem mm_X7_shift_iX7 : Cond.initialized RX7 ∈ wsX7_shift := by decide +kernel
set_option maxRecDepth 20000 in
theorem mm_X7_shift_l15 : Cond.methodLink RX7 15 yX1_i ∈ wsX7_shift := by decide +kernel
set_option maxRecDepth 20000 in
theorem mm_X7_shift_l18 : Cond.methodLink RX7 18 yX1_op ∈ wsX7_shift := by decide +kernel
set_option maxRecDepth 20000 in
theorem mm_X7_shift_l21 : Cond.methodLink RX7 21 yX1_j ∈ wsX7_shift := by decide +kernel
set_option maxRecDepth 20000 in
theorem mm_X7_shift_l24 : Cond.methodLink RX7 24 yX6_x ∈ wsX7_shift := by decide +kernel
set_option maxRecDepth 20000 in
theorem mm_X7_shift_l30 : Cond.methodLink RX7 30 yX1_k ∈ wsX7_shift := by decide +kernel
set_option maxRecDepth 20000 in
theorem mm_X7_shift_l62 : Cond.methodLink RX7 62 yX1_jk ∈ wsX7_shift := by decide +kernel
set_option maxRecDepth 20000 in
theorem mm_X7_shift_l65 : Cond.methodLink RX7 65 yX4_turnedRoundLeft ∈ wsX7_shift := by decide +kernel
set_option maxRecDepth 20000 in
theorem mm_X7_shift_l71 : Cond.methodLink RX7 71 yX4_shiftedRight ∈ wsX7_shift := by decide +kernel
set_option maxRecDepth 20000 in
theorem mm_X7_shift_l74 : Cond.methodLink RX7 74 yX6_b ∈ wsX7_shift := by decide +kernel
set_option maxRecDepth 20000 in
theorem mm_X7_shift_l77 : Cond.methodLink RX7 77 yX7_shiftBy ∈ wsX7_shift := by decide +kernel
set_option maxRecDepth 20000 in
theorem mm_X7_shift_l81 : Cond.methodLink RX7 81 yX4_highestBits ∈ wsX7_shift := by decide +kernel
set_option maxRecDepth 20000 in
theorem mm_X7_shift_nX1_i : Cond.instanceMethod yX1_i ∈ wsX7_shift := by decide +kernel
set_option maxRecDepth 20000 in
theorem mm_X7_shift_nX1_j : Cond.instanceMethod yX1_j ∈ wsX7_shift := by decide +kernel
set_option maxRecDepth 20000 in
theorem mm_X7_shift_nX1_jk : Cond.instanceMethod yX1_jk ∈ wsX7_shift := by decide +kernel
set_option maxRecDepth 20000 in
theorem mm_X7_shift_nX1_k : Cond.instanceMethod yX1_k ∈ wsX7_shift := by decide +kernel
set_option maxRecDepth 20000 in
theorem mm_X7_shift_nX1_op : Cond.instanceMethod yX1_op ∈ wsX7_shift := by decide +kernel
set_option maxRecDepth 20000 in
theorem mm_X7_shift_nX6_b : Cond.instanceMethod yX6_b ∈ wsX7_shift := by decide +kernel
set_option maxRecDepth 20000 in
theorem mm_X7_shift_nX6_x : Cond.instanceMethod yX6_x ∈ wsX7_shift := by decide +kernel
set_option maxRecDepth 20000 in
theorem mm_X7_shift_sX1_i : Cond.selects RX1 yX1_i yX1_i ∈ wsX7_shift := by decide +kernel
set_option maxRecDepth 20000 in
theorem mm_X7_shift_sX1_j : Cond.selects RX1 yX1_j yX1_j ∈ wsX7_shift := by decide +kernel
set_option maxRecDepth 20000 in
theorem mm_X7_shift_sX1_jk : Cond.selects RX1 yX1_jk yX1_jk ∈ wsX7_shift := by decide +kernel
set_option maxRecDepth 20000 in
theorem mm_X7_shift_sX1_k : Cond.selects RX1 yX1_k yX1_k ∈ wsX7_shift := by decide +kernel
set_option maxRecDepth 20000 in
theorem mm_X7_shift_sX1_op : Cond.selects RX1 yX1_op yX1_op ∈ wsX7_shift := by decide +kernel
set_option maxRecDepth 20000 in
theorem mm_X7_shift_sX6_b : Cond.selects RX6 yX6_b yX6_b ∈ wsX7_shift := by decide +kernel
set_option maxRecDepth 20000 in
theorem mm_X7_shift_sX6_x : Cond.selects RX6 yX6_x yX6_x ∈ wsX7_shift := by decide +kernel
set_option maxRecDepth 20000 in
theorem mm_X7_shift_tX4_highestBits : Cond.static yX4_highestBits ∈ wsX7_shift := by decide +kernel
set_option maxRecDepth 20000 in
theorem mm_X7_shift_tX4_shiftedRight : Cond.static yX4_shiftedRight ∈ wsX7_shift := by decide +kernel
set_option maxRecDepth 20000 in
theorem mm_X7_shift_tX4_turnedRoundLeft : Cond.static yX4_turnedRoundLeft ∈ wsX7_shift := by decide +kernel
set_option maxRecDepth 20000 in
theorem mm_X7_shift_tX7_shiftBy : Cond.static yX7_shiftBy ∈ wsX7_shift := by decide +kernel
set_option maxHeartbeats 4000000 in
set_option maxRecDepth 100000 in
theorem w_X7_shift {p : Program} {l : Launch} {e : Env} {s : State} {m : MethodId} {below : List Frame} {meth : Method} {c : Code} {args : Array Value} (dC : Nat → ClassId) (dI : Nat → Nat → Nat) (cI cJ : ClassId) (hI hG g1 hN hR : Nat) (iop : Int32) (ii : Int32) (ij : Int32) (ik : Int32) (ic : Int32) (ip : Int32) (iu : Int32) (gv : Nat → Int64) (C0 : Cx p s m meth c cX7_shift 2 (some .long) wsX7_shift RX7 args) (hK : va_K (dC, dI) vwCl [(cI, .int), (cJ, .long)] s) (hP : va_P (dC, dI) vwCl [(hI, .inr (1, [.int iop, .int ii, .int ij, .int ik, .int ic, .int ip, .int iu, .ref hN, .ref hR])), (hG, .inr (4, [.ref g1])), (g1, .inl (cJ, 24, .inr (.inl gv)))] s.heap) (hi : R8 ii) (hj : R8 ij) (hk : R8 ik) {V : Int64} (hV : (F_X7_shift iop ii ij ik gv ) = V) (ls : Array Slot) (hl : lv_has ls 2 [(0, .ref hI), (1, .ref hG)]) : W p l e rm_X7_shift s m args below meth c s.heap [] 0 0 (MQ below (vp_Sl (fun r => r = V)) args s 0 0 (fun _ => False)) (F0 m 0 ls []) := by
  obtain ⟨hx, hb, hr, hlk, hml, hown, hts⟩ := id C0
  refine lv_aload_n hx hb dX7_shift_0 rfl (lv_at hl 0 rfl) ?_
  refine roVi (As := []) (rest := []) (bytes := cX1_op) (maxL := 1) (rty := (some .int)) (n := 0) (ci := 1) C0 (c_X1_op l dC dI cI cJ hI hN hR iop ii ij ik ic ip iu) ⟨rfl, rfl, rfl, by decide +kernel, by decide, by decide⟩ ggX7_shift_X1_op mm_X7_shift_iX1 mm_X7_shift_l18 mm_X7_shift_nX1_op mm_X7_shift_sX1_op rfl rfl (hP.sub (ws' := [(hI, .inr (1, [.int iop, .int ii, .int ij, .int ik, .int ic, .int ip, .int iu, .ref hN, .ref hR]))]) [0] rfl) hK hl.1 rfl rfl (Nat.le_of_ble_eq_true rfl) dX7_shift_1 ⟨Nat.zero_le _, Nat.zero_le _⟩ ?_
  by_cases c1 : (F_X1_op iop) = (16 : Int32)
  · refine lv_tableIn (tgt := 36) hx hb dX7_shift_4 (by rw [c1]; decide) (by rw [c1]; decide) (by rw [c1]; rfl) (by decide) ?_
    refine lv_aload_n hx hb dX7_shift_36 rfl (lv_at hl 1 rfl) ?_
    refine lv_aload_n hx hb dX7_shift_37 rfl (lv_at hl 0 rfl) ?_
    refine roVi (As := []) (rest := [.ref hG]) (bytes := cX1_i) (maxL := 1) (rty := (some .int)) (n := 0) (ci := 1) C0 (c_X1_i l dC dI cI cJ hI hN hR iop ii ij ik ic ip iu) ⟨rfl, rfl, rfl, by decide +kernel, by decide, by decide⟩ ggX7_shift_X1_i mm_X7_shift_iX1 mm_X7_shift_l15 mm_X7_shift_nX1_i mm_X7_shift_sX1_i rfl rfl (hP.sub (ws' := [(hI, .inr (1, [.int iop, .int ii, .int ij, .int ik, .int ic, .int ip, .int iu, .ref hN, .ref hR]))]) [0] rfl) hK hl.1 rfl rfl (Nat.le_of_ble_eq_true rfl) dX7_shift_38 ⟨Nat.zero_le _, Nat.zero_le _⟩ ?_
    refine roVl (As := [.int (F_X1_i ii)]) (rest := []) (bytes := cX6_x) (maxL := 2) (rty := (some .long)) (n := 1) (ci := 4) C0 (c_X6_x l dC dI cI cJ hG g1 (F_X1_i ii) gv (R8.x hi)) ⟨rfl, rfl, rfl, by decide +kernel, by decide, by decide⟩ ggX7_shift_X6_x mm_X7_shift_iX6 mm_X7_shift_l24 mm_X7_shift_nX6_x mm_X7_shift_sX6_x rfl rfl (hP.sub (ws' := [(hG, .inr (4, [.ref g1])), (g1, .inl (cJ, 24, .inr (.inl gv)))]) [1, 2] rfl) hK hl.1 rfl rfl (Nat.le_of_ble_eq_true rfl) dX7_shift_41 ⟨Nat.zero_le _, Nat.zero_le _⟩ ?_
    refine lv_aload_n hx hb dX7_shift_44 rfl (lv_at hl 0 rfl) ?_
    refine roVi (As := []) (rest := [.long (F_X6_x (F_X1_i ii) gv)]) (bytes := cX1_jk) (maxL := 1) (rty := (some .int)) (n := 0) (ci := 1) C0 (c_X1_jk l dC dI cI cJ hI hN hR iop ii ij ik ic ip iu) ⟨rfl, rfl, rfl, by decide +kernel, by decide, by decide⟩ ggX7_shift_X1_jk mm_X7_shift_iX1 mm_X7_shift_l62 mm_X7_shift_nX1_jk mm_X7_shift_sX1_jk rfl rfl (hP.sub (ws' := [(hI, .inr (1, [.int iop, .int ii, .int ij, .int ik, .int ic, .int ip, .int iu, .ref hN, .ref hR]))]) [0] rfl) hK hl.1 rfl rfl (Nat.le_of_ble_eq_true rfl) dX7_shift_45 ⟨Nat.zero_le _, Nat.zero_le _⟩ ?_
    refine roSl (As := [.long (F_X6_x (F_X1_i ii) gv), .int (F_X1_jk ij ik)]) (rest := []) (bytes := cX4_turnedRoundLeft) (maxL := 4) (rty := (some .long)) (n := 2) C0 (c_X4_turnedRoundLeft l dC dI cI cJ (F_X6_x (F_X1_i ii) gv) (F_X1_jk ij ik)) ⟨rfl, rfl, rfl, by decide +kernel, by decide, by decide⟩ ggX7_shift_X4_turnedRoundLeft mm_X7_shift_iX4 mm_X7_shift_l65 mm_X7_shift_tX4_turnedRoundLeft (hP.sub (ws' := []) [] rfl) hK hl.1 rfl rfl (Nat.le_of_ble_eq_true rfl) dX7_shift_48 ⟨Nat.zero_le _, Nat.zero_le _⟩ ?_
    have e9 : (F_X7_shift iop ii ij ik gv ) = (F_X4_turnedRoundLeft (F_X6_x (F_X1_i ii) gv) (F_X1_jk ij ik)) := by rw [F_X7_shift, if_pos c1]
    rw [e9] at hV
    subst hV
    exact roRetL C0 rfl dX7_shift_51
  by_cases c2 : (F_X1_op iop) = (17 : Int32)
  · refine lv_tableIn (tgt := 52) hx hb dX7_shift_4 (by rw [c2]; decide) (by rw [c2]; decide) (by rw [c2]; rfl) (by decide) ?_
    refine lv_aload_n hx hb dX7_shift_52 rfl (lv_at hl 1 rfl) ?_
    refine lv_aload_n hx hb dX7_shift_53 rfl (lv_at hl 0 rfl) ?_
    refine roVi (As := []) (rest := [.ref hG]) (bytes := cX1_i) (maxL := 1) (rty := (some .int)) (n := 0) (ci := 1) C0 (c_X1_i l dC dI cI cJ hI hN hR iop ii ij ik ic ip iu) ⟨rfl, rfl, rfl, by decide +kernel, by decide, by decide⟩ ggX7_shift_X1_i mm_X7_shift_iX1 mm_X7_shift_l15 mm_X7_shift_nX1_i mm_X7_shift_sX1_i rfl rfl (hP.sub (ws' := [(hI, .inr (1, [.int iop, .int ii, .int ij, .int ik, .int ic, .int ip, .int iu, .ref hN, .ref hR]))]) [0] rfl) hK hl.1 rfl rfl (Nat.le_of_ble_eq_true rfl) dX7_shift_54 ⟨Nat.zero_le _, Nat.zero_le _⟩ ?_
    refine roVl (As := [.int (F_X1_i ii)]) (rest := []) (bytes := cX6_x) (maxL := 2) (rty := (some .long)) (n := 1) (ci := 4) C0 (c_X6_x l dC dI cI cJ hG g1 (F_X1_i ii) gv (R8.x hi)) ⟨rfl, rfl, rfl, by decide +kernel, by decide, by decide⟩ ggX7_shift_X6_x mm_X7_shift_iX6 mm_X7_shift_l24 mm_X7_shift_nX6_x mm_X7_shift_sX6_x rfl rfl (hP.sub (ws' := [(hG, .inr (4, [.ref g1])), (g1, .inl (cJ, 24, .inr (.inl gv)))]) [1, 2] rfl) hK hl.1 rfl rfl (Nat.le_of_ble_eq_true rfl) dX7_shift_57 ⟨Nat.zero_le _, Nat.zero_le _⟩ ?_
    refine lv_aload_n hx hb dX7_shift_60 rfl (lv_at hl 0 rfl) ?_
    refine roVi (As := []) (rest := [.long (F_X6_x (F_X1_i ii) gv)]) (bytes := cX1_jk) (maxL := 1) (rty := (some .int)) (n := 0) (ci := 1) C0 (c_X1_jk l dC dI cI cJ hI hN hR iop ii ij ik ic ip iu) ⟨rfl, rfl, rfl, by decide +kernel, by decide, by decide⟩ ggX7_shift_X1_jk mm_X7_shift_iX1 mm_X7_shift_l62 mm_X7_shift_nX1_jk mm_X7_shift_sX1_jk rfl rfl (hP.sub (ws' := [(hI, .inr (1, [.int iop, .int ii, .int ij, .int ik, .int ic, .int ip, .int iu, .ref hN, .ref hR]))]) [0] rfl) hK hl.1 rfl rfl (Nat.le_of_ble_eq_true rfl) dX7_shift_61 ⟨Nat.zero_le _, Nat.zero_le _⟩ ?_
    refine roSl (As := [.long (F_X6_x (F_X1_i ii) gv), .int (F_X1_jk ij ik)]) (rest := []) (bytes := cX4_shiftedRight) (maxL := 5) (rty := (some .long)) (n := 2) C0 (c_X4_shiftedRight l dC dI cI cJ (F_X6_x (F_X1_i ii) gv) (F_X1_jk ij ik)) ⟨rfl, rfl, rfl, by decide +kernel, by decide, by decide⟩ ggX7_shift_X4_shiftedRight mm_X7_shift_iX4 mm_X7_shift_l71 mm_X7_shift_tX4_shiftedRight (hP.sub (ws' := []) [] rfl) hK hl.1 rfl rfl (Nat.le_of_ble_eq_true rfl) dX7_shift_64 ⟨Nat.zero_le _, Nat.zero_le _⟩ ?_
    have e9 : (F_X7_shift iop ii ij ik gv ) = (F_X4_shiftedRight (F_X6_x (F_X1_i ii) gv) (F_X1_jk ij ik)) := by rw [F_X7_shift, if_neg c1, if_pos c2]
    rw [e9] at hV
    subst hV
    exact roRetL C0 rfl dX7_shift_67
  by_cases c3 : (F_X1_op iop) = (18 : Int32)
  · refine lv_tableIn (tgt := 68) hx hb dX7_shift_4 (by rw [c3]; decide) (by rw [c3]; decide) (by rw [c3]; rfl) (by decide) ?_
    refine lv_aload_n hx hb dX7_shift_68 rfl (lv_at hl 1 rfl) ?_
    refine lv_aload_n hx hb dX7_shift_69 rfl (lv_at hl 0 rfl) ?_
    refine roVi (As := []) (rest := [.ref hG]) (bytes := cX1_k) (maxL := 1) (rty := (some .int)) (n := 0) (ci := 1) C0 (c_X1_k l dC dI cI cJ hI hN hR iop ii ij ik ic ip iu) ⟨rfl, rfl, rfl, by decide +kernel, by decide, by decide⟩ ggX7_shift_X1_k mm_X7_shift_iX1 mm_X7_shift_l30 mm_X7_shift_nX1_k mm_X7_shift_sX1_k rfl rfl (hP.sub (ws' := [(hI, .inr (1, [.int iop, .int ii, .int ij, .int ik, .int ic, .int ip, .int iu, .ref hN, .ref hR]))]) [0] rfl) hK hl.1 rfl rfl (Nat.le_of_ble_eq_true rfl) dX7_shift_70 ⟨Nat.zero_le _, Nat.zero_le _⟩ ?_
    refine roVl (As := [.int (F_X1_k ik)]) (rest := []) (bytes := cX6_x) (maxL := 2) (rty := (some .long)) (n := 1) (ci := 4) C0 (c_X6_x l dC dI cI cJ hG g1 (F_X1_k ik) gv (R8.x hk)) ⟨rfl, rfl, rfl, by decide +kernel, by decide, by decide⟩ ggX7_shift_X6_x mm_X7_shift_iX6 mm_X7_shift_l24 mm_X7_shift_nX6_x mm_X7_shift_sX6_x rfl rfl (hP.sub (ws' := [(hG, .inr (4, [.ref g1])), (g1, .inl (cJ, 24, .inr (.inl gv)))]) [1, 2] rfl) hK hl.1 rfl rfl (Nat.le_of_ble_eq_true rfl) dX7_shift_73 ⟨Nat.zero_le _, Nat.zero_le _⟩ ?_
    refine lv_aload_n hx hb dX7_shift_76 rfl (lv_at hl 1 rfl) ?_
    refine lv_aload_n hx hb dX7_shift_77 rfl (lv_at hl 0 rfl) ?_
    refine roVi (As := []) (rest := [.ref hG, .long (F_X6_x (F_X1_k ik) gv)]) (bytes := cX1_j) (maxL := 1) (rty := (some .int)) (n := 0) (ci := 1) C0 (c_X1_j l dC dI cI cJ hI hN hR iop ii ij ik ic ip iu) ⟨rfl, rfl, rfl, by decide +kernel, by decide, by decide⟩ ggX7_shift_X1_j mm_X7_shift_iX1 mm_X7_shift_l21 mm_X7_shift_nX1_j mm_X7_shift_sX1_j rfl rfl (hP.sub (ws' := [(hI, .inr (1, [.int iop, .int ii, .int ij, .int ik, .int ic, .int ip, .int iu, .ref hN, .ref hR]))]) [0] rfl) hK hl.1 rfl rfl (Nat.le_of_ble_eq_true rfl) dX7_shift_78 ⟨Nat.zero_le _, Nat.zero_le _⟩ ?_
    refine roVl (As := [.int (F_X1_j ij)]) (rest := [.long (F_X6_x (F_X1_k ik) gv)]) (bytes := cX6_b) (maxL := 2) (rty := (some .long)) (n := 1) (ci := 4) C0 (c_X6_b l dC dI cI cJ hG g1 (F_X1_j ij) gv (R8.b hj)) ⟨rfl, rfl, rfl, by decide +kernel, by decide, by decide⟩ ggX7_shift_X6_b mm_X7_shift_iX6 mm_X7_shift_l74 mm_X7_shift_nX6_b mm_X7_shift_sX6_b rfl rfl (hP.sub (ws' := [(hG, .inr (4, [.ref g1])), (g1, .inl (cJ, 24, .inr (.inl gv)))]) [1, 2] rfl) hK hl.1 rfl rfl (Nat.le_of_ble_eq_true rfl) dX7_shift_81 ⟨Nat.zero_le _, Nat.zero_le _⟩ ?_
    refine lv_iconst (v := (1 : Int32)) hx hb dX7_shift_84 (by decide) ?_
    refine roSl (As := [.long (F_X6_x (F_X1_k ik) gv), .long (F_X6_b (F_X1_j ij) gv), .int (1 : Int32)]) (rest := []) (bytes := cX7_shiftBy) (maxL := 7) (rty := (some .long)) (n := 3) C0 (c_X7_shiftBy l dC dI cI cJ (F_X6_x (F_X1_k ik) gv) (F_X6_b (F_X1_j ij) gv) (1 : Int32)) ⟨rfl, rfl, rfl, by decide +kernel, by decide, by decide⟩ ggX7_shift_X7_shiftBy mm_X7_shift_iX7 mm_X7_shift_l77 mm_X7_shift_tX7_shiftBy (hP.sub (ws' := []) [] rfl) hK hl.1 rfl rfl (Nat.le_of_ble_eq_true rfl) dX7_shift_85 ⟨Nat.zero_le _, Nat.zero_le _⟩ ?_
    have e9 : (F_X7_shift iop ii ij ik gv ) = (F_X7_shiftBy (F_X6_x (F_X1_k ik) gv) (F_X6_b (F_X1_j ij) gv) (1 : Int32)) := by rw [F_X7_shift, if_neg c1, if_neg c2, if_pos c3]
    rw [e9] at hV
    subst hV
    exact roRetL C0 rfl dX7_shift_88
  by_cases c4 : (F_X1_op iop) = (19 : Int32)
  · refine lv_tableIn (tgt := 89) hx hb dX7_shift_4 (by rw [c4]; decide) (by rw [c4]; decide) (by rw [c4]; rfl) (by decide) ?_
    refine lv_aload_n hx hb dX7_shift_89 rfl (lv_at hl 1 rfl) ?_
    refine lv_aload_n hx hb dX7_shift_90 rfl (lv_at hl 0 rfl) ?_
    refine roVi (As := []) (rest := [.ref hG]) (bytes := cX1_k) (maxL := 1) (rty := (some .int)) (n := 0) (ci := 1) C0 (c_X1_k l dC dI cI cJ hI hN hR iop ii ij ik ic ip iu) ⟨rfl, rfl, rfl, by decide +kernel, by decide, by decide⟩ ggX7_shift_X1_k mm_X7_shift_iX1 mm_X7_shift_l30 mm_X7_shift_nX1_k mm_X7_shift_sX1_k rfl rfl (hP.sub (ws' := [(hI, .inr (1, [.int iop, .int ii, .int ij, .int ik, .int ic, .int ip, .int iu, .ref hN, .ref hR]))]) [0] rfl) hK hl.1 rfl rfl (Nat.le_of_ble_eq_true rfl) dX7_shift_91 ⟨Nat.zero_le _, Nat.zero_le _⟩ ?_
    refine roVl (As := [.int (F_X1_k ik)]) (rest := []) (bytes := cX6_x) (maxL := 2) (rty := (some .long)) (n := 1) (ci := 4) C0 (c_X6_x l dC dI cI cJ hG g1 (F_X1_k ik) gv (R8.x hk)) ⟨rfl, rfl, rfl, by decide +kernel, by decide, by decide⟩ ggX7_shift_X6_x mm_X7_shift_iX6 mm_X7_shift_l24 mm_X7_shift_nX6_x mm_X7_shift_sX6_x rfl rfl (hP.sub (ws' := [(hG, .inr (4, [.ref g1])), (g1, .inl (cJ, 24, .inr (.inl gv)))]) [1, 2] rfl) hK hl.1 rfl rfl (Nat.le_of_ble_eq_true rfl) dX7_shift_94 ⟨Nat.zero_le _, Nat.zero_le _⟩ ?_
    refine lv_aload_n hx hb dX7_shift_97 rfl (lv_at hl 1 rfl) ?_
    refine lv_aload_n hx hb dX7_shift_98 rfl (lv_at hl 0 rfl) ?_
    refine roVi (As := []) (rest := [.ref hG, .long (F_X6_x (F_X1_k ik) gv)]) (bytes := cX1_j) (maxL := 1) (rty := (some .int)) (n := 0) (ci := 1) C0 (c_X1_j l dC dI cI cJ hI hN hR iop ii ij ik ic ip iu) ⟨rfl, rfl, rfl, by decide +kernel, by decide, by decide⟩ ggX7_shift_X1_j mm_X7_shift_iX1 mm_X7_shift_l21 mm_X7_shift_nX1_j mm_X7_shift_sX1_j rfl rfl (hP.sub (ws' := [(hI, .inr (1, [.int iop, .int ii, .int ij, .int ik, .int ic, .int ip, .int iu, .ref hN, .ref hR]))]) [0] rfl) hK hl.1 rfl rfl (Nat.le_of_ble_eq_true rfl) dX7_shift_99 ⟨Nat.zero_le _, Nat.zero_le _⟩ ?_
    refine roVl (As := [.int (F_X1_j ij)]) (rest := [.long (F_X6_x (F_X1_k ik) gv)]) (bytes := cX6_b) (maxL := 2) (rty := (some .long)) (n := 1) (ci := 4) C0 (c_X6_b l dC dI cI cJ hG g1 (F_X1_j ij) gv (R8.b hj)) ⟨rfl, rfl, rfl, by decide +kernel, by decide, by decide⟩ ggX7_shift_X6_b mm_X7_shift_iX6 mm_X7_shift_l74 mm_X7_shift_nX6_b mm_X7_shift_sX6_b rfl rfl (hP.sub (ws' := [(hG, .inr (4, [.ref g1])), (g1, .inl (cJ, 24, .inr (.inl gv)))]) [1, 2] rfl) hK hl.1 rfl rfl (Nat.le_of_ble_eq_true rfl) dX7_shift_102 ⟨Nat.zero_le _, Nat.zero_le _⟩ ?_
    refine lv_iconst (v := (0 : Int32)) hx hb dX7_shift_105 (by decide) ?_
    refine roSl (As := [.long (F_X6_x (F_X1_k ik) gv), .long (F_X6_b (F_X1_j ij) gv), .int (0 : Int32)]) (rest := []) (bytes := cX7_shiftBy) (maxL := 7) (rty := (some .long)) (n := 3) C0 (c_X7_shiftBy l dC dI cI cJ (F_X6_x (F_X1_k ik) gv) (F_X6_b (F_X1_j ij) gv) (0 : Int32)) ⟨rfl, rfl, rfl, by decide +kernel, by decide, by decide⟩ ggX7_shift_X7_shiftBy mm_X7_shift_iX7 mm_X7_shift_l77 mm_X7_shift_tX7_shiftBy (hP.sub (ws' := []) [] rfl) hK hl.1 rfl rfl (Nat.le_of_ble_eq_true rfl) dX7_shift_106 ⟨Nat.zero_le _, Nat.zero_le _⟩ ?_
    have e9 : (F_X7_shift iop ii ij ik gv ) = (F_X7_shiftBy (F_X6_x (F_X1_k ik) gv) (F_X6_b (F_X1_j ij) gv) (0 : Int32)) := by rw [F_X7_shift, if_neg c1, if_neg c2, if_neg c3, if_pos c4]
    rw [e9] at hV
    subst hV
    exact roRetL C0 rfl dX7_shift_109
  refine lv_tableOut (tgt := 110) hx hb dX7_shift_4 (by have q16 := lv_neT (a := 16) c1 (by decide); have q17 := lv_neT (a := 17) c2 (by decide); have q18 := lv_neT (a := 18) c3 (by decide); have q19 := lv_neT (a := 19) c4 (by decide); omega) (by decide) ?_
  refine lv_aload_n hx hb dX7_shift_110 rfl (lv_at hl 0 rfl) ?_
  refine roVi (As := []) (rest := []) (bytes := cX1_jk) (maxL := 1) (rty := (some .int)) (n := 0) (ci := 1) C0 (c_X1_jk l dC dI cI cJ hI hN hR iop ii ij ik ic ip iu) ⟨rfl, rfl, rfl, by decide +kernel, by decide, by decide⟩ ggX7_shift_X1_jk mm_X7_shift_iX1 mm_X7_shift_l62 mm_X7_shift_nX1_jk mm_X7_shift_sX1_jk rfl rfl (hP.sub (ws' := [(hI, .inr (1, [.int iop, .int ii, .int ij, .int ik, .int ic, .int ip, .int iu, .ref hN, .ref hR]))]) [0] rfl) hK hl.1 rfl rfl (Nat.le_of_ble_eq_true rfl) dX7_shift_111 ⟨Nat.zero_le _, Nat.zero_le _⟩ ?_
  refine roSl (As := [.int (F_X1_jk ij ik)]) (rest := []) (bytes := cX4_highestBits) (maxL := 1) (rty := (some .long)) (n := 1) C0 (c_X4_highestBits l dC dI cI cJ (F_X1_jk ij ik)) ⟨rfl, rfl, rfl, by decide +kernel, by decide, by decide⟩ ggX7_shift_X4_highestBits mm_X7_shift_iX4 mm_X7_shift_l81 mm_X7_shift_tX4_highestBits (hP.sub (ws' := []) [] rfl) hK hl.1 rfl rfl (Nat.le_of_ble_eq_true rfl) dX7_shift_114 ⟨Nat.zero_le _, Nat.zero_le _⟩ ?_
  have e9 : (F_X7_shift iop ii ij ik gv ) = (F_X4_highestBits (F_X1_jk ij ik)) := by rw [F_X7_shift, if_neg c1, if_neg c2, if_neg c3, if_neg c4]
  rw [e9] at hV
  subst hV
  exact roRetL C0 rfl dX7_shift_117
theorem c_X7_shift (l : Launch) (dC : Nat → ClassId) (dI : Nat → Nat → Nat) (cI cJ : ClassId) (hI hG g1 hN hR : Nat) (iop : Int32) (ii : Int32) (ij : Int32) (ik : Int32) (ic : Int32) (ip : Int32) (iu : Int32) (gv : Nat → Int64) (hi : R8 ii) (hj : R8 ij) (hk : R8 ik) : RoL l yX7_shift wsX7_shift rm_X7_shift (dC, dI) [(cI, .int), (cJ, .long)] [(hI, .inr (1, [.int iop, .int ii, .int ij, .int ik, .int ic, .int ip, .int iu, .ref hN, .ref hR])), (hG, .inr (4, [.ref g1])), (g1, .inl (cJ, 24, .inr (.inl gv)))] [.ref hI, .ref hG] (F_X7_shift iop ii ij ik gv ) := by
  refine RoL.mk (cc := cX7_shift) (nL := 2) (ret := (some .long)) [(0, .ref hI), (1, .ref hG)] (by decide) rfl (Nat.le_of_ble_eq_true rfl) rfl ?_
  intro p e s m below meth c C0 hP hK ls hl
  exact w_X7_shift dC dI cI cJ hI hG g1 hN hR iop ii ij ik ic ip iu gv C0 hK hP hi hj hk rfl ls hl

-- X7_shortSum
def F_X7_shortSum (iop : Int32) (ij : Int32) (ik : Int32) (ic : Int32) (gv : Nat → Int64) : Int64 :=
  (if ((F_X1_op iop) &&& (7 : Int32)) = (0 : Int32) then (F_X4_sum (F_X6_a (F_X1_j ij) gv) ((F_X1_constant ic).toInt64) (262143 : Int64)) else (if ((F_X1_op iop) &&& (7 : Int32)) = (1 : Int32) then (F_X4_sum (F_X6_b (F_X1_j ij) gv) ((F_X1_constant ic).toInt64) (262143 : Int64)) else (if ((F_X1_op iop) &&& (7 : Int32)) = (2 : Int32) then (F_X4_sum ((F_X6_x (F_X1_j ij) gv) &&& (262143 : Int64)) ((F_X1_constant ic).toInt64) (262143 : Int64)) else (if ((F_X1_op iop) &&& (7 : Int32)) = (3 : Int32) then (F_X4_sum ((F_X6_x (F_X1_j ij) gv) &&& (262143 : Int64)) (F_X6_b (F_X1_k ik) gv) (262143 : Int64)) else (if ((F_X1_op iop) &&& (7 : Int32)) = (4 : Int32) then (F_X4_sum (F_X6_a (F_X1_j ij) gv) (F_X6_b (F_X1_k ik) gv) (262143 : Int64)) else (if ((F_X1_op iop) &&& (7 : Int32)) = (5 : Int32) then (F_X4_difference (F_X6_a (F_X1_j ij) gv) (F_X6_b (F_X1_k ik) gv) (262143 : Int64)) else (if ((F_X1_op iop) &&& (7 : Int32)) = (6 : Int32) then (F_X4_sum (F_X6_b (F_X1_j ij) gv) (F_X6_b (F_X1_k ik) gv) (262143 : Int64)) else (F_X4_difference (F_X6_b (F_X1_j ij) gv) (F_X6_b (F_X1_k ik) gv) (262143 : Int64)))))))))
abbrev rm_X7_shortSum : Room := { frames := 2, cells := 0, slots := 0, locals := 53 }
set_option maxRecDepth 20000 in
theorem mm_X7_shortSum_iX1 : Cond.initialized RX1 ∈ wsX7_shortSum := by decide +kernel
set_option maxRecDepth 20000 in
theorem mm_X7_shortSum_iX4 : Cond.initialized RX4 ∈ wsX7_shortSum := by decide +kernel
set_option maxRecDepth 20000 in
theorem mm_X7_shortSum_iX6 : Cond.initialized RX6 ∈ wsX7_shortSum := by decide +kernel
set_option maxRecDepth 20000 in
theorem mm_X7_shortSum_k126 : Cond.constantLong RX7 126 (262143) ∈ wsX7_shortSum := by decide +kernel
set_option maxRecDepth 20000 in
theorem mm_X7_shortSum_l123 : Cond.methodLink RX7 123 yX6_a ∈ wsX7_shortSum := by decide +kernel
set_option maxRecDepth 20000 in
theorem mm_X7_shortSum_l128 : Cond.methodLink RX7 128 yX1_constant ∈ wsX7_shortSum := by decide +kernel
set_option maxRecDepth 20000 in
theorem mm_X7_shortSum_l18 : Cond.methodLink RX7 18 yX1_op ∈ wsX7_shortSum := by decide +kernel
set_option maxRecDepth 20000 in
theorem mm_X7_shortSum_l21 : Cond.methodLink RX7 21 yX1_j ∈ wsX7_shortSum := by decide +kernel
set_option maxRecDepth 20000 in
theorem mm_X7_shortSum_l24 : Cond.methodLink RX7 24 yX6_x ∈ wsX7_shortSum := by decide +kernel
set_option maxRecDepth 20000 in
theorem mm_X7_shortSum_l30 : Cond.methodLink RX7 30 yX1_k ∈ wsX7_shortSum := by decide +kernel
set_option maxRecDepth 20000 in
theorem mm_X7_shortSum_l74 : Cond.methodLink RX7 74 yX6_b ∈ wsX7_shortSum := by decide +kernel
set_option maxRecDepth 20000 in
theorem mm_X7_shortSum_l90 : Cond.methodLink RX7 90 yX4_sum ∈ wsX7_shortSum := by decide +kernel
set_option maxRecDepth 20000 in
theorem mm_X7_shortSum_l94 : Cond.methodLink RX7 94 yX4_difference ∈ wsX7_shortSum := by decide +kernel
set_option maxRecDepth 20000 in
theorem mm_X7_shortSum_nX1_constant : Cond.instanceMethod yX1_constant ∈ wsX7_shortSum := by decide +kernel
set_option maxRecDepth 20000 in
theorem mm_X7_shortSum_nX1_j : Cond.instanceMethod yX1_j ∈ wsX7_shortSum := by decide +kernel
set_option maxRecDepth 20000 in
theorem mm_X7_shortSum_nX1_k : Cond.instanceMethod yX1_k ∈ wsX7_shortSum := by decide +kernel
set_option maxRecDepth 20000 in
theorem mm_X7_shortSum_nX1_op : Cond.instanceMethod yX1_op ∈ wsX7_shortSum := by decide +kernel
set_option maxRecDepth 20000 in
theorem mm_X7_shortSum_nX6_a : Cond.instanceMethod yX6_a ∈ wsX7_shortSum := by decide +kernel
set_option maxRecDepth 20000 in
theorem mm_X7_shortSum_nX6_b : Cond.instanceMethod yX6_b ∈ wsX7_shortSum := by decide +kernel
set_option maxRecDepth 20000 in
theorem mm_X7_shortSum_nX6_x : Cond.instanceMethod yX6_x ∈ wsX7_shortSum := by decide +kernel
set_option maxRecDepth 20000 in
theorem mm_X7_shortSum_sX1_constant : Cond.selects RX1 yX1_constant yX1_constant ∈ wsX7_shortSum := by decide +kernel
set_option maxRecDepth 20000 in
theorem mm_X7_shortSum_sX1_j : Cond.selects RX1 yX1_j yX1_j ∈ wsX7_shortSum := by decide +kernel
set_option maxRecDepth 20000 in
theorem mm_X7_shortSum_sX1_k : Cond.selects RX1 yX1_k yX1_k ∈ wsX7_shortSum := by decide +kernel
set_option maxRecDepth 20000 in
theorem mm_X7_shortSum_sX1_op : Cond.selects RX1 yX1_op yX1_op ∈ wsX7_shortSum := by decide +kernel
set_option maxRecDepth 20000 in
theorem mm_X7_shortSum_sX6_a : Cond.selects RX6 yX6_a yX6_a ∈ wsX7_shortSum := by decide +kernel
set_option maxRecDepth 20000 in
theorem mm_X7_shortSum_sX6_b : Cond.selects RX6 yX6_b yX6_b ∈ wsX7_shortSum := by decide +kernel
set_option maxRecDepth 20000 in
theorem mm_X7_shortSum_sX6_x : Cond.selects RX6 yX6_x yX6_x ∈ wsX7_shortSum := by decide +kernel
set_option maxRecDepth 20000 in
theorem mm_X7_shortSum_tX4_difference : Cond.static yX4_difference ∈ wsX7_shortSum := by decide +kernel
set_option maxRecDepth 20000 in
theorem mm_X7_shortSum_tX4_sum : Cond.static yX4_sum ∈ wsX7_shortSum := by decide +kernel
set_option maxHeartbeats 4000000 in
set_option maxRecDepth 100000 in
theorem w_X7_shortSum {p : Program} {l : Launch} {e : Env} {s : State} {m : MethodId} {below : List Frame} {meth : Method} {c : Code} {args : Array Value} (dC : Nat → ClassId) (dI : Nat → Nat → Nat) (cI cJ : ClassId) (hI hG g1 hN hR : Nat) (iop : Int32) (ii : Int32) (ij : Int32) (ik : Int32) (ic : Int32) (ip : Int32) (iu : Int32) (gv : Nat → Int64) (C0 : Cx p s m meth c cX7_shortSum 10 (some .long) wsX7_shortSum RX7 args) (hK : va_K (dC, dI) vwCl [(cI, .int), (cJ, .long)] s) (hP : va_P (dC, dI) vwCl [(hI, .inr (1, [.int iop, .int ii, .int ij, .int ik, .int ic, .int ip, .int iu, .ref hN, .ref hR])), (hG, .inr (4, [.ref g1])), (g1, .inl (cJ, 24, .inr (.inl gv)))] s.heap) (hi : R8 ii) (hj : R8 ij) (hk : R8 ik) {V : Int64} (hV : (F_X7_shortSum iop ij ik ic gv ) = V) (ls : Array Slot) (hl : lv_has ls 10 [(0, .ref hI), (1, .ref hG)]) : W p l e rm_X7_shortSum s m args below meth c s.heap [] 0 0 (MQ below (vp_Sl (fun r => r = V)) args s 0 0 (fun _ => False)) (F0 m 0 ls []) := by
  obtain ⟨hx, hb, hr, hlk, hml, hown, hts⟩ := id C0
  refine lv_aload_n hx hb dX7_shortSum_0 rfl (lv_at hl 1 rfl) ?_
  refine lv_aload_n hx hb dX7_shortSum_1 rfl (lv_at hl 0 rfl) ?_
  refine roVi (As := []) (rest := [.ref hG]) (bytes := cX1_j) (maxL := 1) (rty := (some .int)) (n := 0) (ci := 1) C0 (c_X1_j l dC dI cI cJ hI hN hR iop ii ij ik ic ip iu) ⟨rfl, rfl, rfl, by decide +kernel, by decide, by decide⟩ ggX7_shortSum_X1_j mm_X7_shortSum_iX1 mm_X7_shortSum_l21 mm_X7_shortSum_nX1_j mm_X7_shortSum_sX1_j rfl rfl (hP.sub (ws' := [(hI, .inr (1, [.int iop, .int ii, .int ij, .int ik, .int ic, .int ip, .int iu, .ref hN, .ref hR]))]) [0] rfl) hK hl.1 rfl rfl (Nat.le_of_ble_eq_true rfl) dX7_shortSum_2 ⟨Nat.zero_le _, Nat.zero_le _⟩ ?_
  refine roVl (As := [.int (F_X1_j ij)]) (rest := []) (bytes := cX6_a) (maxL := 2) (rty := (some .long)) (n := 1) (ci := 4) C0 (c_X6_a l dC dI cI cJ hG g1 (F_X1_j ij) gv (R8.a hj)) ⟨rfl, rfl, rfl, by decide +kernel, by decide, by decide⟩ ggX7_shortSum_X6_a mm_X7_shortSum_iX6 mm_X7_shortSum_l123 mm_X7_shortSum_nX6_a mm_X7_shortSum_sX6_a rfl rfl (hP.sub (ws' := [(hG, .inr (4, [.ref g1])), (g1, .inl (cJ, 24, .inr (.inl gv)))]) [1, 2] rfl) hK hl.1 rfl rfl (Nat.le_of_ble_eq_true rfl) dX7_shortSum_5 ⟨Nat.zero_le _, Nat.zero_le _⟩ ?_
  refine lv_lstore_n (lv' := [(2, .long (F_X6_a (F_X1_j ij) gv)), (0, .ref hI), (1, .ref hG)]) hx hb dX7_shortSum_8 rfl hl (by decide) rfl (fun ls hl => ?_)
  refine lv_aload_n hx hb dX7_shortSum_9 rfl (lv_at hl 2 rfl) ?_
  refine lv_aload_n hx hb dX7_shortSum_10 rfl (lv_at hl 1 rfl) ?_
  refine roVi (As := []) (rest := [.ref hG]) (bytes := cX1_j) (maxL := 1) (rty := (some .int)) (n := 0) (ci := 1) C0 (c_X1_j l dC dI cI cJ hI hN hR iop ii ij ik ic ip iu) ⟨rfl, rfl, rfl, by decide +kernel, by decide, by decide⟩ ggX7_shortSum_X1_j mm_X7_shortSum_iX1 mm_X7_shortSum_l21 mm_X7_shortSum_nX1_j mm_X7_shortSum_sX1_j rfl rfl (hP.sub (ws' := [(hI, .inr (1, [.int iop, .int ii, .int ij, .int ik, .int ic, .int ip, .int iu, .ref hN, .ref hR]))]) [0] rfl) hK hl.1 rfl rfl (Nat.le_of_ble_eq_true rfl) dX7_shortSum_11 ⟨Nat.zero_le _, Nat.zero_le _⟩ ?_
  refine roVl (As := [.int (F_X1_j ij)]) (rest := []) (bytes := cX6_b) (maxL := 2) (rty := (some .long)) (n := 1) (ci := 4) C0 (c_X6_b l dC dI cI cJ hG g1 (F_X1_j ij) gv (R8.b hj)) ⟨rfl, rfl, rfl, by decide +kernel, by decide, by decide⟩ ggX7_shortSum_X6_b mm_X7_shortSum_iX6 mm_X7_shortSum_l74 mm_X7_shortSum_nX6_b mm_X7_shortSum_sX6_b rfl rfl (hP.sub (ws' := [(hG, .inr (4, [.ref g1])), (g1, .inl (cJ, 24, .inr (.inl gv)))]) [1, 2] rfl) hK hl.1 rfl rfl (Nat.le_of_ble_eq_true rfl) dX7_shortSum_14 ⟨Nat.zero_le _, Nat.zero_le _⟩ ?_
  refine lv_lstore (lv' := [(4, .long (F_X6_b (F_X1_j ij) gv)), (2, .long (F_X6_a (F_X1_j ij) gv)), (0, .ref hI), (1, .ref hG)]) hx hb dX7_shortSum_17 hl (by decide) rfl (fun ls hl => ?_)
  refine lv_aload_n hx hb dX7_shortSum_19 rfl (lv_at hl 3 rfl) ?_
  refine lv_aload_n hx hb dX7_shortSum_20 rfl (lv_at hl 2 rfl) ?_
  refine roVi (As := []) (rest := [.ref hG]) (bytes := cX1_j) (maxL := 1) (rty := (some .int)) (n := 0) (ci := 1) C0 (c_X1_j l dC dI cI cJ hI hN hR iop ii ij ik ic ip iu) ⟨rfl, rfl, rfl, by decide +kernel, by decide, by decide⟩ ggX7_shortSum_X1_j mm_X7_shortSum_iX1 mm_X7_shortSum_l21 mm_X7_shortSum_nX1_j mm_X7_shortSum_sX1_j rfl rfl (hP.sub (ws' := [(hI, .inr (1, [.int iop, .int ii, .int ij, .int ik, .int ic, .int ip, .int iu, .ref hN, .ref hR]))]) [0] rfl) hK hl.1 rfl rfl (Nat.le_of_ble_eq_true rfl) dX7_shortSum_21 ⟨Nat.zero_le _, Nat.zero_le _⟩ ?_
  refine roVl (As := [.int (F_X1_j ij)]) (rest := []) (bytes := cX6_x) (maxL := 2) (rty := (some .long)) (n := 1) (ci := 4) C0 (c_X6_x l dC dI cI cJ hG g1 (F_X1_j ij) gv (R8.x hj)) ⟨rfl, rfl, rfl, by decide +kernel, by decide, by decide⟩ ggX7_shortSum_X6_x mm_X7_shortSum_iX6 mm_X7_shortSum_l24 mm_X7_shortSum_nX6_x mm_X7_shortSum_sX6_x rfl rfl (hP.sub (ws' := [(hG, .inr (4, [.ref g1])), (g1, .inl (cJ, 24, .inr (.inl gv)))]) [1, 2] rfl) hK hl.1 rfl rfl (Nat.le_of_ble_eq_true rfl) dX7_shortSum_24 ⟨Nat.zero_le _, Nat.zero_le _⟩ ?_
  refine lv_ldc2 (v := (262143 : Int64)) hx hb hown (hts _ mm_X7_shortSum_k126) dX7_shortSum_27 ?_
  refine lv_land hx hb dX7_shortSum_30 ?_
  refine lv_lstore (lv' := [(6, .long ((F_X6_x (F_X1_j ij) gv) &&& (262143 : Int64))), (4, .long (F_X6_b (F_X1_j ij) gv)), (2, .long (F_X6_a (F_X1_j ij) gv)), (0, .ref hI), (1, .ref hG)]) hx hb dX7_shortSum_31 hl (by decide) rfl (fun ls hl => ?_)
  refine lv_aload_n hx hb dX7_shortSum_33 rfl (lv_at hl 4 rfl) ?_
  refine lv_aload_n hx hb dX7_shortSum_34 rfl (lv_at hl 3 rfl) ?_
  refine roVi (As := []) (rest := [.ref hG]) (bytes := cX1_k) (maxL := 1) (rty := (some .int)) (n := 0) (ci := 1) C0 (c_X1_k l dC dI cI cJ hI hN hR iop ii ij ik ic ip iu) ⟨rfl, rfl, rfl, by decide +kernel, by decide, by decide⟩ ggX7_shortSum_X1_k mm_X7_shortSum_iX1 mm_X7_shortSum_l30 mm_X7_shortSum_nX1_k mm_X7_shortSum_sX1_k rfl rfl (hP.sub (ws' := [(hI, .inr (1, [.int iop, .int ii, .int ij, .int ik, .int ic, .int ip, .int iu, .ref hN, .ref hR]))]) [0] rfl) hK hl.1 rfl rfl (Nat.le_of_ble_eq_true rfl) dX7_shortSum_35 ⟨Nat.zero_le _, Nat.zero_le _⟩ ?_
  refine roVl (As := [.int (F_X1_k ik)]) (rest := []) (bytes := cX6_b) (maxL := 2) (rty := (some .long)) (n := 1) (ci := 4) C0 (c_X6_b l dC dI cI cJ hG g1 (F_X1_k ik) gv (R8.b hk)) ⟨rfl, rfl, rfl, by decide +kernel, by decide, by decide⟩ ggX7_shortSum_X6_b mm_X7_shortSum_iX6 mm_X7_shortSum_l74 mm_X7_shortSum_nX6_b mm_X7_shortSum_sX6_b rfl rfl (hP.sub (ws' := [(hG, .inr (4, [.ref g1])), (g1, .inl (cJ, 24, .inr (.inl gv)))]) [1, 2] rfl) hK hl.1 rfl rfl (Nat.le_of_ble_eq_true rfl) dX7_shortSum_38 ⟨Nat.zero_le _, Nat.zero_le _⟩ ?_
  refine lv_lstore (lv' := [(8, .long (F_X6_b (F_X1_k ik) gv)), (6, .long ((F_X6_x (F_X1_j ij) gv) &&& (262143 : Int64))), (4, .long (F_X6_b (F_X1_j ij) gv)), (2, .long (F_X6_a (F_X1_j ij) gv)), (0, .ref hI), (1, .ref hG)]) hx hb dX7_shortSum_41 hl (by decide) rfl (fun ls hl => ?_)
  refine lv_aload_n hx hb dX7_shortSum_43 rfl (lv_at hl 4 rfl) ?_
  refine roVi (As := []) (rest := []) (bytes := cX1_op) (maxL := 1) (rty := (some .int)) (n := 0) (ci := 1) C0 (c_X1_op l dC dI cI cJ hI hN hR iop ii ij ik ic ip iu) ⟨rfl, rfl, rfl, by decide +kernel, by decide, by decide⟩ ggX7_shortSum_X1_op mm_X7_shortSum_iX1 mm_X7_shortSum_l18 mm_X7_shortSum_nX1_op mm_X7_shortSum_sX1_op rfl rfl (hP.sub (ws' := [(hI, .inr (1, [.int iop, .int ii, .int ij, .int ik, .int ic, .int ip, .int iu, .ref hN, .ref hR]))]) [0] rfl) hK hl.1 rfl rfl (Nat.le_of_ble_eq_true rfl) dX7_shortSum_44 ⟨Nat.zero_le _, Nat.zero_le _⟩ ?_
  refine lv_bipush (v := (7 : Int32)) hx hb dX7_shortSum_47 (by decide) ?_
  refine lv_iand hx hb dX7_shortSum_49 ?_
  by_cases c1 : ((F_X1_op iop) &&& (7 : Int32)) = (0 : Int32)
  · refine lv_tableIn (tgt := 92) hx hb dX7_shortSum_50 (by rw [c1]; decide) (by rw [c1]; decide) (by rw [c1]; rfl) (by decide) ?_
    refine lv_lload_n hx hb dX7_shortSum_92 rfl (lv_at hl 3 rfl) ?_
    refine lv_aload_n hx hb dX7_shortSum_93 rfl (lv_at hl 4 rfl) ?_
    refine roVi (As := []) (rest := [.long (F_X6_a (F_X1_j ij) gv)]) (bytes := cX1_constant) (maxL := 1) (rty := (some .int)) (n := 0) (ci := 1) C0 (c_X1_constant l dC dI cI cJ hI hN hR iop ii ij ik ic ip iu) ⟨rfl, rfl, rfl, by decide +kernel, by decide, by decide⟩ ggX7_shortSum_X1_constant mm_X7_shortSum_iX1 mm_X7_shortSum_l128 mm_X7_shortSum_nX1_constant mm_X7_shortSum_sX1_constant rfl rfl (hP.sub (ws' := [(hI, .inr (1, [.int iop, .int ii, .int ij, .int ik, .int ic, .int ip, .int iu, .ref hN, .ref hR]))]) [0] rfl) hK hl.1 rfl rfl (Nat.le_of_ble_eq_true rfl) dX7_shortSum_94 ⟨Nat.zero_le _, Nat.zero_le _⟩ ?_
    refine lv_i2l hx hb dX7_shortSum_97 rfl ?_
    refine lv_ldc2 (v := (262143 : Int64)) hx hb hown (hts _ mm_X7_shortSum_k126) dX7_shortSum_98 ?_
    refine roSl (As := [.long (F_X6_a (F_X1_j ij) gv), .long (F_X1_constant ic).toInt64, .long (262143 : Int64)]) (rest := []) (bytes := cX4_sum) (maxL := 9) (rty := (some .long)) (n := 3) C0 (c_X4_sum l dC dI cI cJ (F_X6_a (F_X1_j ij) gv) ((F_X1_constant ic).toInt64) (262143 : Int64)) ⟨rfl, rfl, rfl, by decide +kernel, by decide, by decide⟩ ggX7_shortSum_X4_sum mm_X7_shortSum_iX4 mm_X7_shortSum_l90 mm_X7_shortSum_tX4_sum (hP.sub (ws' := []) [] rfl) hK hl.1 rfl rfl (Nat.le_of_ble_eq_true rfl) dX7_shortSum_101 ⟨Nat.zero_le _, Nat.zero_le _⟩ ?_
    have e9 : (F_X7_shortSum iop ij ik ic gv ) = (F_X4_sum (F_X6_a (F_X1_j ij) gv) ((F_X1_constant ic).toInt64) (262143 : Int64)) := by rw [F_X7_shortSum, if_pos c1]
    rw [e9] at hV
    subst hV
    exact roRetL C0 rfl dX7_shortSum_104
  by_cases c2 : ((F_X1_op iop) &&& (7 : Int32)) = (1 : Int32)
  · refine lv_tableIn (tgt := 105) hx hb dX7_shortSum_50 (by rw [c2]; decide) (by rw [c2]; decide) (by rw [c2]; rfl) (by decide) ?_
    refine lv_lload hx hb dX7_shortSum_105 (lv_at hl 2 rfl) ?_
    refine lv_aload_n hx hb dX7_shortSum_107 rfl (lv_at hl 4 rfl) ?_
    refine roVi (As := []) (rest := [.long (F_X6_b (F_X1_j ij) gv)]) (bytes := cX1_constant) (maxL := 1) (rty := (some .int)) (n := 0) (ci := 1) C0 (c_X1_constant l dC dI cI cJ hI hN hR iop ii ij ik ic ip iu) ⟨rfl, rfl, rfl, by decide +kernel, by decide, by decide⟩ ggX7_shortSum_X1_constant mm_X7_shortSum_iX1 mm_X7_shortSum_l128 mm_X7_shortSum_nX1_constant mm_X7_shortSum_sX1_constant rfl rfl (hP.sub (ws' := [(hI, .inr (1, [.int iop, .int ii, .int ij, .int ik, .int ic, .int ip, .int iu, .ref hN, .ref hR]))]) [0] rfl) hK hl.1 rfl rfl (Nat.le_of_ble_eq_true rfl) dX7_shortSum_108 ⟨Nat.zero_le _, Nat.zero_le _⟩ ?_
    refine lv_i2l hx hb dX7_shortSum_111 rfl ?_
    refine lv_ldc2 (v := (262143 : Int64)) hx hb hown (hts _ mm_X7_shortSum_k126) dX7_shortSum_112 ?_
    refine roSl (As := [.long (F_X6_b (F_X1_j ij) gv), .long (F_X1_constant ic).toInt64, .long (262143 : Int64)]) (rest := []) (bytes := cX4_sum) (maxL := 9) (rty := (some .long)) (n := 3) C0 (c_X4_sum l dC dI cI cJ (F_X6_b (F_X1_j ij) gv) ((F_X1_constant ic).toInt64) (262143 : Int64)) ⟨rfl, rfl, rfl, by decide +kernel, by decide, by decide⟩ ggX7_shortSum_X4_sum mm_X7_shortSum_iX4 mm_X7_shortSum_l90 mm_X7_shortSum_tX4_sum (hP.sub (ws' := []) [] rfl) hK hl.1 rfl rfl (Nat.le_of_ble_eq_true rfl) dX7_shortSum_115 ⟨Nat.zero_le _, Nat.zero_le _⟩ ?_
    have e9 : (F_X7_shortSum iop ij ik ic gv ) = (F_X4_sum (F_X6_b (F_X1_j ij) gv) ((F_X1_constant ic).toInt64) (262143 : Int64)) := by rw [F_X7_shortSum, if_neg c1, if_pos c2]
    rw [e9] at hV
    subst hV
    exact roRetL C0 rfl dX7_shortSum_118
  by_cases c3 : ((F_X1_op iop) &&& (7 : Int32)) = (2 : Int32)
  · refine lv_tableIn (tgt := 119) hx hb dX7_shortSum_50 (by rw [c3]; decide) (by rw [c3]; decide) (by rw [c3]; rfl) (by decide) ?_
    refine lv_lload hx hb dX7_shortSum_119 (lv_at hl 1 rfl) ?_
    refine lv_aload_n hx hb dX7_shortSum_121 rfl (lv_at hl 4 rfl) ?_
    refine roVi (As := []) (rest := [.long ((F_X6_x (F_X1_j ij) gv) &&& (262143 : Int64))]) (bytes := cX1_constant) (maxL := 1) (rty := (some .int)) (n := 0) (ci := 1) C0 (c_X1_constant l dC dI cI cJ hI hN hR iop ii ij ik ic ip iu) ⟨rfl, rfl, rfl, by decide +kernel, by decide, by decide⟩ ggX7_shortSum_X1_constant mm_X7_shortSum_iX1 mm_X7_shortSum_l128 mm_X7_shortSum_nX1_constant mm_X7_shortSum_sX1_constant rfl rfl (hP.sub (ws' := [(hI, .inr (1, [.int iop, .int ii, .int ij, .int ik, .int ic, .int ip, .int iu, .ref hN, .ref hR]))]) [0] rfl) hK hl.1 rfl rfl (Nat.le_of_ble_eq_true rfl) dX7_shortSum_122 ⟨Nat.zero_le _, Nat.zero_le _⟩ ?_
    refine lv_i2l hx hb dX7_shortSum_125 rfl ?_
    refine lv_ldc2 (v := (262143 : Int64)) hx hb hown (hts _ mm_X7_shortSum_k126) dX7_shortSum_126 ?_
    refine roSl (As := [.long ((F_X6_x (F_X1_j ij) gv) &&& (262143 : Int64)), .long (F_X1_constant ic).toInt64, .long (262143 : Int64)]) (rest := []) (bytes := cX4_sum) (maxL := 9) (rty := (some .long)) (n := 3) C0 (c_X4_sum l dC dI cI cJ ((F_X6_x (F_X1_j ij) gv) &&& (262143 : Int64)) ((F_X1_constant ic).toInt64) (262143 : Int64)) ⟨rfl, rfl, rfl, by decide +kernel, by decide, by decide⟩ ggX7_shortSum_X4_sum mm_X7_shortSum_iX4 mm_X7_shortSum_l90 mm_X7_shortSum_tX4_sum (hP.sub (ws' := []) [] rfl) hK hl.1 rfl rfl (Nat.le_of_ble_eq_true rfl) dX7_shortSum_129 ⟨Nat.zero_le _, Nat.zero_le _⟩ ?_
    have e9 : (F_X7_shortSum iop ij ik ic gv ) = (F_X4_sum ((F_X6_x (F_X1_j ij) gv) &&& (262143 : Int64)) ((F_X1_constant ic).toInt64) (262143 : Int64)) := by rw [F_X7_shortSum, if_neg c1, if_neg c2, if_pos c3]
    rw [e9] at hV
    subst hV
    exact roRetL C0 rfl dX7_shortSum_132
  by_cases c4 : ((F_X1_op iop) &&& (7 : Int32)) = (3 : Int32)
  · refine lv_tableIn (tgt := 133) hx hb dX7_shortSum_50 (by rw [c4]; decide) (by rw [c4]; decide) (by rw [c4]; rfl) (by decide) ?_
    refine lv_lload hx hb dX7_shortSum_133 (lv_at hl 1 rfl) ?_
    refine lv_lload hx hb dX7_shortSum_135 (lv_at hl 0 rfl) ?_
    refine lv_ldc2 (v := (262143 : Int64)) hx hb hown (hts _ mm_X7_shortSum_k126) dX7_shortSum_137 ?_
    refine roSl (As := [.long ((F_X6_x (F_X1_j ij) gv) &&& (262143 : Int64)), .long (F_X6_b (F_X1_k ik) gv), .long (262143 : Int64)]) (rest := []) (bytes := cX4_sum) (maxL := 9) (rty := (some .long)) (n := 3) C0 (c_X4_sum l dC dI cI cJ ((F_X6_x (F_X1_j ij) gv) &&& (262143 : Int64)) (F_X6_b (F_X1_k ik) gv) (262143 : Int64)) ⟨rfl, rfl, rfl, by decide +kernel, by decide, by decide⟩ ggX7_shortSum_X4_sum mm_X7_shortSum_iX4 mm_X7_shortSum_l90 mm_X7_shortSum_tX4_sum (hP.sub (ws' := []) [] rfl) hK hl.1 rfl rfl (Nat.le_of_ble_eq_true rfl) dX7_shortSum_140 ⟨Nat.zero_le _, Nat.zero_le _⟩ ?_
    have e9 : (F_X7_shortSum iop ij ik ic gv ) = (F_X4_sum ((F_X6_x (F_X1_j ij) gv) &&& (262143 : Int64)) (F_X6_b (F_X1_k ik) gv) (262143 : Int64)) := by rw [F_X7_shortSum, if_neg c1, if_neg c2, if_neg c3, if_pos c4]
    rw [e9] at hV
    subst hV
    exact roRetL C0 rfl dX7_shortSum_143
  by_cases c5 : ((F_X1_op iop) &&& (7 : Int32)) = (4 : Int32)
  · refine lv_tableIn (tgt := 144) hx hb dX7_shortSum_50 (by rw [c5]; decide) (by rw [c5]; decide) (by rw [c5]; rfl) (by decide) ?_
    refine lv_lload_n hx hb dX7_shortSum_144 rfl (lv_at hl 3 rfl) ?_
    refine lv_lload hx hb dX7_shortSum_145 (lv_at hl 0 rfl) ?_
    refine lv_ldc2 (v := (262143 : Int64)) hx hb hown (hts _ mm_X7_shortSum_k126) dX7_shortSum_147 ?_
    refine roSl (As := [.long (F_X6_a (F_X1_j ij) gv), .long (F_X6_b (F_X1_k ik) gv), .long (262143 : Int64)]) (rest := []) (bytes := cX4_sum) (maxL := 9) (rty := (some .long)) (n := 3) C0 (c_X4_sum l dC dI cI cJ (F_X6_a (F_X1_j ij) gv) (F_X6_b (F_X1_k ik) gv) (262143 : Int64)) ⟨rfl, rfl, rfl, by decide +kernel, by decide, by decide⟩ ggX7_shortSum_X4_sum mm_X7_shortSum_iX4 mm_X7_shortSum_l90 mm_X7_shortSum_tX4_sum (hP.sub (ws' := []) [] rfl) hK hl.1 rfl rfl (Nat.le_of_ble_eq_true rfl) dX7_shortSum_150 ⟨Nat.zero_le _, Nat.zero_le _⟩ ?_
    have e9 : (F_X7_shortSum iop ij ik ic gv ) = (F_X4_sum (F_X6_a (F_X1_j ij) gv) (F_X6_b (F_X1_k ik) gv) (262143 : Int64)) := by rw [F_X7_shortSum, if_neg c1, if_neg c2, if_neg c3, if_neg c4, if_pos c5]
    rw [e9] at hV
    subst hV
    exact roRetL C0 rfl dX7_shortSum_153
  by_cases c6 : ((F_X1_op iop) &&& (7 : Int32)) = (5 : Int32)
  · refine lv_tableIn (tgt := 154) hx hb dX7_shortSum_50 (by rw [c6]; decide) (by rw [c6]; decide) (by rw [c6]; rfl) (by decide) ?_
    refine lv_lload_n hx hb dX7_shortSum_154 rfl (lv_at hl 3 rfl) ?_
    refine lv_lload hx hb dX7_shortSum_155 (lv_at hl 0 rfl) ?_
    refine lv_ldc2 (v := (262143 : Int64)) hx hb hown (hts _ mm_X7_shortSum_k126) dX7_shortSum_157 ?_
    refine roSl (As := [.long (F_X6_a (F_X1_j ij) gv), .long (F_X6_b (F_X1_k ik) gv), .long (262143 : Int64)]) (rest := []) (bytes := cX4_difference) (maxL := 6) (rty := (some .long)) (n := 3) C0 (c_X4_difference l dC dI cI cJ (F_X6_a (F_X1_j ij) gv) (F_X6_b (F_X1_k ik) gv) (262143 : Int64)) ⟨rfl, rfl, rfl, by decide +kernel, by decide, by decide⟩ ggX7_shortSum_X4_difference mm_X7_shortSum_iX4 mm_X7_shortSum_l94 mm_X7_shortSum_tX4_difference (hP.sub (ws' := []) [] rfl) hK hl.1 rfl rfl (Nat.le_of_ble_eq_true rfl) dX7_shortSum_160 ⟨Nat.zero_le _, Nat.zero_le _⟩ ?_
    have e9 : (F_X7_shortSum iop ij ik ic gv ) = (F_X4_difference (F_X6_a (F_X1_j ij) gv) (F_X6_b (F_X1_k ik) gv) (262143 : Int64)) := by rw [F_X7_shortSum, if_neg c1, if_neg c2, if_neg c3, if_neg c4, if_neg c5, if_pos c6]
    rw [e9] at hV
    subst hV
    exact roRetL C0 rfl dX7_shortSum_163
  by_cases c7 : ((F_X1_op iop) &&& (7 : Int32)) = (6 : Int32)
  · refine lv_tableIn (tgt := 164) hx hb dX7_shortSum_50 (by rw [c7]; decide) (by rw [c7]; decide) (by rw [c7]; rfl) (by decide) ?_
    refine lv_lload hx hb dX7_shortSum_164 (lv_at hl 2 rfl) ?_
    refine lv_lload hx hb dX7_shortSum_166 (lv_at hl 0 rfl) ?_
    refine lv_ldc2 (v := (262143 : Int64)) hx hb hown (hts _ mm_X7_shortSum_k126) dX7_shortSum_168 ?_
    refine roSl (As := [.long (F_X6_b (F_X1_j ij) gv), .long (F_X6_b (F_X1_k ik) gv), .long (262143 : Int64)]) (rest := []) (bytes := cX4_sum) (maxL := 9) (rty := (some .long)) (n := 3) C0 (c_X4_sum l dC dI cI cJ (F_X6_b (F_X1_j ij) gv) (F_X6_b (F_X1_k ik) gv) (262143 : Int64)) ⟨rfl, rfl, rfl, by decide +kernel, by decide, by decide⟩ ggX7_shortSum_X4_sum mm_X7_shortSum_iX4 mm_X7_shortSum_l90 mm_X7_shortSum_tX4_sum (hP.sub (ws' := []) [] rfl) hK hl.1 rfl rfl (Nat.le_of_ble_eq_true rfl) dX7_shortSum_171 ⟨Nat.zero_le _, Nat.zero_le _⟩ ?_
    have e9 : (F_X7_shortSum iop ij ik ic gv ) = (F_X4_sum (F_X6_b (F_X1_j ij) gv) (F_X6_b (F_X1_k ik) gv) (262143 : Int64)) := by rw [F_X7_shortSum, if_neg c1, if_neg c2, if_neg c3, if_neg c4, if_neg c5, if_neg c6, if_pos c7]
    rw [e9] at hV
    subst hV
    exact roRetL C0 rfl dX7_shortSum_174
  refine lv_tableOut (tgt := 175) hx hb dX7_shortSum_50 (by have q0 := lv_neT (a := 0) c1 (by decide); have q1 := lv_neT (a := 1) c2 (by decide); have q2 := lv_neT (a := 2) c3 (by decide); have q3 := lv_neT (a := 3) c4 (by decide); have q4 := lv_neT (a := 4) c5 (by decide); have q5 := lv_neT (a := 5) c6 (by decide); have q6 := lv_neT (a := 6) c7 (by decide); omega) (by decide) ?_
  refine lv_lload hx hb dX7_shortSum_175 (lv_at hl 2 rfl) ?_
  refine lv_lload hx hb dX7_shortSum_177 (lv_at hl 0 rfl) ?_
  refine lv_ldc2 (v := (262143 : Int64)) hx hb hown (hts _ mm_X7_shortSum_k126) dX7_shortSum_179 ?_
  refine roSl (As := [.long (F_X6_b (F_X1_j ij) gv), .long (F_X6_b (F_X1_k ik) gv), .long (262143 : Int64)]) (rest := []) (bytes := cX4_difference) (maxL := 6) (rty := (some .long)) (n := 3) C0 (c_X4_difference l dC dI cI cJ (F_X6_b (F_X1_j ij) gv) (F_X6_b (F_X1_k ik) gv) (262143 : Int64)) ⟨rfl, rfl, rfl, by decide +kernel, by decide, by decide⟩ ggX7_shortSum_X4_difference mm_X7_shortSum_iX4 mm_X7_shortSum_l94 mm_X7_shortSum_tX4_difference (hP.sub (ws' := []) [] rfl) hK hl.1 rfl rfl (Nat.le_of_ble_eq_true rfl) dX7_shortSum_182 ⟨Nat.zero_le _, Nat.zero_le _⟩ ?_
  have e9 : (F_X7_shortSum iop ij ik ic gv ) = (F_X4_difference (F_X6_b (F_X1_j ij) gv) (F_X6_b (F_X1_k ik) gv) (262143 : Int64)) := by rw [F_X7_shortSum, if_neg c1, if_neg c2, if_neg c3, if_neg c4, if_neg c5, if_neg c6, if_neg c7]
  rw [e9] at hV
  subst hV
  exact roRetL C0 rfl dX7_shortSum_185
theorem c_X7_shortSum (l : Launch) (dC : Nat → ClassId) (dI : Nat → Nat → Nat) (cI cJ : ClassId) (hI hG g1 hN hR : Nat) (iop : Int32) (ii : Int32) (ij : Int32) (ik : Int32) (ic : Int32) (ip : Int32) (iu : Int32) (gv : Nat → Int64) (hi : R8 ii) (hj : R8 ij) (hk : R8 ik) : RoL l yX7_shortSum wsX7_shortSum rm_X7_shortSum (dC, dI) [(cI, .int), (cJ, .long)] [(hI, .inr (1, [.int iop, .int ii, .int ij, .int ik, .int ic, .int ip, .int iu, .ref hN, .ref hR])), (hG, .inr (4, [.ref g1])), (g1, .inl (cJ, 24, .inr (.inl gv)))] [.ref hI, .ref hG] (F_X7_shortSum iop ij ik ic gv ) := by
  refine RoL.mk (cc := cX7_shortSum) (nL := 10) (ret := (some .long)) [(0, .ref hI), (1, .ref hG)] (by decide) rfl (Nat.le_of_ble_eq_true rfl) rfl ?_
  intro p e s m below meth c C0 hP hK ls hl
  exact w_X7_shortSum dC dI cI cJ hI hG g1 hN hR iop ii ij ik ic ip iu gv C0 hK hP hi hj hk rfl ls hl
