-- J13_bitCount_95d88
def F_J13_bitCount_95d88_55 (v0 : Int64) : Int32 :=
  (v0.toInt32 &&& (127 : Int32))
def F_J13_bitCount_95d88_48 (v0 : Int64) : Int32 :=
  (F_J13_bitCount_95d88_55 (v0 + ((v0.toUInt64 >>> ((32 : Int32).toInt64.toUInt64 &&& Int64.toUInt64 63)).toInt64)))
def F_J13_bitCount_95d88_41 (v0 : Int64) : Int32 :=
  (F_J13_bitCount_95d88_48 (v0 + ((v0.toUInt64 >>> ((16 : Int32).toInt64.toUInt64 &&& Int64.toUInt64 63)).toInt64)))
def F_J13_bitCount_95d88_34 (v0 : Int64) : Int32 :=
  (F_J13_bitCount_95d88_41 (v0 + ((v0.toUInt64 >>> ((8 : Int32).toInt64.toUInt64 &&& Int64.toUInt64 63)).toInt64)))
def F_J13_bitCount_95d88_24 (v0 : Int64) : Int32 :=
  (F_J13_bitCount_95d88_34 ((v0 + ((v0.toUInt64 >>> ((4 : Int32).toInt64.toUInt64 &&& Int64.toUInt64 63)).toInt64)) &&& (1085102592571150095 : Int64)))
def F_J13_bitCount_95d88_10 (v0 : Int64) : Int32 :=
  (F_J13_bitCount_95d88_24 ((v0 &&& (3689348814741910323 : Int64)) + (((v0.toUInt64 >>> ((2 : Int32).toInt64.toUInt64 &&& Int64.toUInt64 63)).toInt64) &&& (3689348814741910323 : Int64))))
def F_J13_bitCount_95d88 (a : Int64) : Int32 :=
  (F_J13_bitCount_95d88_10 (a - (((a.toUInt64 >>> ((1 : Int32).toInt64.toUInt64 &&& Int64.toUInt64 63)).toInt64) &&& (6148914691236517205 : Int64))))
abbrev rm_J13_bitCount_95d88 : Room := { frames := 0, cells := 0, slots := 0, locals := 0 }
set_option maxRecDepth 20000 in
theorem mm_J13_bitCount_95d88_k314 : Cond.constantLong RJ13 314 (6148914691236517205) ∈ wsJ13_bitCount_95d88 := by decide +kernel
set_option maxRecDepth 20000 in
theorem mm_J13_bitCount_95d88_k316 : Cond.constantLong RJ13 316 (3689348814741910323) ∈ wsJ13_bitCount_95d88 := by decide +kernel
set_option maxRecDepth 20000 in
theorem mm_J13_bitCount_95d88_k318 : Cond.constantLong RJ13 318 (1085102592571150095) ∈ wsJ13_bitCount_95d88 := by decide +kernel
set_option maxHeartbeats 4000000 in
set_option maxRecDepth 100000 in
theorem j_J13_bitCount_95d88_55 {p : Program} {l : Launch} {e : Env} {s : State} {m : MethodId} {below : List Frame} {meth : Method} {c : Code} {args : Array Value} (dC : Nat → ClassId) (dI : Nat → Nat → Nat) (cI cJ : ClassId) (a : Int64) (C0 : Cx p s m meth c cJ13_bitCount_95d88 2 (some .int) wsJ13_bitCount_95d88 RJ13 args) (hK : va_K (dC, dI) vwCl [(cI, .int), (cJ, .long)] s) (hP : va_P (dC, dI) vwCl [] s.heap) (v0 : Int64) {V : Int32} (hV : (F_J13_bitCount_95d88_55 v0) = V) (ls : Array Slot) (hl : lv_has ls 2 [(0, .long v0)]) : W p l e rm_J13_bitCount_95d88 s m args below meth c s.heap [] 0 0 (MQ below (vp_Si (fun r => r = V)) args s 0 0 (fun _ => False)) (F0 m 55 ls []) := by
  obtain ⟨hx, hb, hr, hlk, hml, hown, hts⟩ := id C0
  refine lv_lload_n hx hb dJ13_bitCount_95d88_55 rfl (lv_at hl 0 rfl) ?_
  refine lv_l2i hx hb dJ13_bitCount_95d88_56 rfl ?_
  refine lv_bipush (v := (127 : Int32)) hx hb dJ13_bitCount_95d88_57 (by decide) ?_
  refine lv_iand hx hb dJ13_bitCount_95d88_59 ?_
  have e9 : (F_J13_bitCount_95d88_55 v0) = (v0.toInt32 &&& (127 : Int32)) := by rw [F_J13_bitCount_95d88_55]
  rw [e9] at hV
  subst hV
  exact roRetI C0 rfl dJ13_bitCount_95d88_60
set_option maxHeartbeats 4000000 in
set_option maxRecDepth 100000 in
theorem j_J13_bitCount_95d88_48 {p : Program} {l : Launch} {e : Env} {s : State} {m : MethodId} {below : List Frame} {meth : Method} {c : Code} {args : Array Value} (dC : Nat → ClassId) (dI : Nat → Nat → Nat) (cI cJ : ClassId) (a : Int64) (C0 : Cx p s m meth c cJ13_bitCount_95d88 2 (some .int) wsJ13_bitCount_95d88 RJ13 args) (hK : va_K (dC, dI) vwCl [(cI, .int), (cJ, .long)] s) (hP : va_P (dC, dI) vwCl [] s.heap) (v0 : Int64) {V : Int32} (hV : (F_J13_bitCount_95d88_48 v0) = V) (ls : Array Slot) (hl : lv_has ls 2 [(0, .long v0)]) : W p l e rm_J13_bitCount_95d88 s m args below meth c s.heap [] 0 0 (MQ below (vp_Si (fun r => r = V)) args s 0 0 (fun _ => False)) (F0 m 48 ls []) := by
  obtain ⟨hx, hb, hr, hlk, hml, hown, hts⟩ := id C0
  refine lv_lload_n hx hb dJ13_bitCount_95d88_48 rfl (lv_at hl 0 rfl) ?_
  refine lv_lload_n hx hb dJ13_bitCount_95d88_49 rfl (lv_at hl 0 rfl) ?_
  refine lv_bipush (v := (32 : Int32)) hx hb dJ13_bitCount_95d88_50 (by decide) ?_
  refine lv_lushr hx hb dJ13_bitCount_95d88_52 rfl ?_
  refine lv_ladd hx hb dJ13_bitCount_95d88_53 ?_
  refine lv_lstore_n (lv' := [(0, .long (v0 + ((v0.toUInt64 >>> ((32 : Int32).toInt64.toUInt64 &&& Int64.toUInt64 63)).toInt64)))]) hx hb dJ13_bitCount_95d88_54 rfl hl (by decide) rfl (fun ls hl => ?_)
  have e9 : (F_J13_bitCount_95d88_48 v0) = (F_J13_bitCount_95d88_55 (v0 + ((v0.toUInt64 >>> ((32 : Int32).toInt64.toUInt64 &&& Int64.toUInt64 63)).toInt64))) := by rw [F_J13_bitCount_95d88_48]
  rw [e9] at hV
  exact j_J13_bitCount_95d88_55 dC dI cI cJ a C0 hK hP (v0 + ((v0.toUInt64 >>> ((32 : Int32).toInt64.toUInt64 &&& Int64.toUInt64 63)).toInt64)) hV ls (lv_sub hl [0] rfl)
set_option maxHeartbeats 4000000 in
set_option maxRecDepth 100000 in
theorem j_J13_bitCount_95d88_41 {p : Program} {l : Launch} {e : Env} {s : State} {m : MethodId} {below : List Frame} {meth : Method} {c : Code} {args : Array Value} (dC : Nat → ClassId) (dI : Nat → Nat → Nat) (cI cJ : ClassId) (a : Int64) (C0 : Cx p s m meth c cJ13_bitCount_95d88 2 (some .int) wsJ13_bitCount_95d88 RJ13 args) (hK : va_K (dC, dI) vwCl [(cI, .int), (cJ, .long)] s) (hP : va_P (dC, dI) vwCl [] s.heap) (v0 : Int64) {V : Int32} (hV : (F_J13_bitCount_95d88_41 v0) = V) (ls : Array Slot) (hl : lv_has ls 2 [(0, .long v0)]) : W p l e rm_J13_bitCount_95d88 s m args below meth c s.heap [] 0 0 (MQ below (vp_Si (fun r => r = V)) args s 0 0 (fun _ => False)) (F0 m 41 ls []) := by
  obtain ⟨hx, hb, hr, hlk, hml, hown, hts⟩ := id C0
  refine lv_lload_n hx hb dJ13_bitCount_95d88_41 rfl (lv_at hl 0 rfl) ?_
  refine lv_lload_n hx hb dJ13_bitCount_95d88_42 rfl (lv_at hl 0 rfl) ?_
  refine lv_bipush (v := (16 : Int32)) hx hb dJ13_bitCount_95d88_43 (by decide) ?_
  refine lv_lushr hx hb dJ13_bitCount_95d88_45 rfl ?_
  refine lv_ladd hx hb dJ13_bitCount_95d88_46 ?_
  refine lv_lstore_n (lv' := [(0, .long (v0 + ((v0.toUInt64 >>> ((16 : Int32).toInt64.toUInt64 &&& Int64.toUInt64 63)).toInt64)))]) hx hb dJ13_bitCount_95d88_47 rfl hl (by decide) rfl (fun ls hl => ?_)
  have e9 : (F_J13_bitCount_95d88_41 v0) = (F_J13_bitCount_95d88_48 (v0 + ((v0.toUInt64 >>> ((16 : Int32).toInt64.toUInt64 &&& Int64.toUInt64 63)).toInt64))) := by rw [F_J13_bitCount_95d88_41]
  rw [e9] at hV
  exact j_J13_bitCount_95d88_48 dC dI cI cJ a C0 hK hP (v0 + ((v0.toUInt64 >>> ((16 : Int32).toInt64.toUInt64 &&& Int64.toUInt64 63)).toInt64)) hV ls (lv_sub hl [0] rfl)
set_option maxHeartbeats 4000000 in
set_option maxRecDepth 100000 in
theorem j_J13_bitCount_95d88_34 {p : Program} {l : Launch} {e : Env} {s : State} {m : MethodId} {below : List Frame} {meth : Method} {c : Code} {args : Array Value} (dC : Nat → ClassId) (dI : Nat → Nat → Nat) (cI cJ : ClassId) (a : Int64) (C0 : Cx p s m meth c cJ13_bitCount_95d88 2 (some .int) wsJ13_bitCount_95d88 RJ13 args) (hK : va_K (dC, dI) vwCl [(cI, .int), (cJ, .long)] s) (hP : va_P (dC, dI) vwCl [] s.heap) (v0 : Int64) {V : Int32} (hV : (F_J13_bitCount_95d88_34 v0) = V) (ls : Array Slot) (hl : lv_has ls 2 [(0, .long v0)]) : W p l e rm_J13_bitCount_95d88 s m args below meth c s.heap [] 0 0 (MQ below (vp_Si (fun r => r = V)) args s 0 0 (fun _ => False)) (F0 m 34 ls []) := by
  obtain ⟨hx, hb, hr, hlk, hml, hown, hts⟩ := id C0
  refine lv_lload_n hx hb dJ13_bitCount_95d88_34 rfl (lv_at hl 0 rfl) ?_
  refine lv_lload_n hx hb dJ13_bitCount_95d88_35 rfl (lv_at hl 0 rfl) ?_
  refine lv_bipush (v := (8 : Int32)) hx hb dJ13_bitCount_95d88_36 (by decide) ?_
  refine lv_lushr hx hb dJ13_bitCount_95d88_38 rfl ?_
  refine lv_ladd hx hb dJ13_bitCount_95d88_39 ?_
  refine lv_lstore_n (lv' := [(0, .long (v0 + ((v0.toUInt64 >>> ((8 : Int32).toInt64.toUInt64 &&& Int64.toUInt64 63)).toInt64)))]) hx hb dJ13_bitCount_95d88_40 rfl hl (by decide) rfl (fun ls hl => ?_)
  have e9 : (F_J13_bitCount_95d88_34 v0) = (F_J13_bitCount_95d88_41 (v0 + ((v0.toUInt64 >>> ((8 : Int32).toInt64.toUInt64 &&& Int64.toUInt64 63)).toInt64))) := by rw [F_J13_bitCount_95d88_34]
  rw [e9] at hV
  exact j_J13_bitCount_95d88_41 dC dI cI cJ a C0 hK hP (v0 + ((v0.toUInt64 >>> ((8 : Int32).toInt64.toUInt64 &&& Int64.toUInt64 63)).toInt64)) hV ls (lv_sub hl [0] rfl)
set_option maxHeartbeats 4000000 in
set_option maxRecDepth 100000 in
theorem j_J13_bitCount_95d88_24 {p : Program} {l : Launch} {e : Env} {s : State} {m : MethodId} {below : List Frame} {meth : Method} {c : Code} {args : Array Value} (dC : Nat → ClassId) (dI : Nat → Nat → Nat) (cI cJ : ClassId) (a : Int64) (C0 : Cx p s m meth c cJ13_bitCount_95d88 2 (some .int) wsJ13_bitCount_95d88 RJ13 args) (hK : va_K (dC, dI) vwCl [(cI, .int), (cJ, .long)] s) (hP : va_P (dC, dI) vwCl [] s.heap) (v0 : Int64) {V : Int32} (hV : (F_J13_bitCount_95d88_24 v0) = V) (ls : Array Slot) (hl : lv_has ls 2 [(0, .long v0)]) : W p l e rm_J13_bitCount_95d88 s m args below meth c s.heap [] 0 0 (MQ below (vp_Si (fun r => r = V)) args s 0 0 (fun _ => False)) (F0 m 24 ls []) := by
  obtain ⟨hx, hb, hr, hlk, hml, hown, hts⟩ := id C0
  refine lv_lload_n hx hb dJ13_bitCount_95d88_24 rfl (lv_at hl 0 rfl) ?_
  refine lv_lload_n hx hb dJ13_bitCount_95d88_25 rfl (lv_at hl 0 rfl) ?_
  refine lv_iconst (v := (4 : Int32)) hx hb dJ13_bitCount_95d88_26 (by decide) ?_
  refine lv_lushr hx hb dJ13_bitCount_95d88_27 rfl ?_
  refine lv_ladd hx hb dJ13_bitCount_95d88_28 ?_
  refine lv_ldc2 (v := (1085102592571150095 : Int64)) hx hb hown (hts _ mm_J13_bitCount_95d88_k318) dJ13_bitCount_95d88_29 ?_
  refine lv_land hx hb dJ13_bitCount_95d88_32 ?_
  refine lv_lstore_n (lv' := [(0, .long ((v0 + ((v0.toUInt64 >>> ((4 : Int32).toInt64.toUInt64 &&& Int64.toUInt64 63)).toInt64)) &&& (1085102592571150095 : Int64)))]) hx hb dJ13_bitCount_95d88_33 rfl hl (by decide) rfl (fun ls hl => ?_)
  have e9 : (F_J13_bitCount_95d88_24 v0) = (F_J13_bitCount_95d88_34 ((v0 + ((v0.toUInt64 >>> ((4 : Int32).toInt64.toUInt64 &&& Int64.toUInt64 63)).toInt64)) &&& (1085102592571150095 : Int64))) := by rw [F_J13_bitCount_95d88_24]
  rw [e9] at hV
  exact j_J13_bitCount_95d88_34 dC dI cI cJ a C0 hK hP ((v0 + ((v0.toUInt64 >>> ((4 : Int32).toInt64.toUInt64 &&& Int64.toUInt64 63)).toInt64)) &&& (1085102592571150095 : Int64)) hV ls (lv_sub hl [0] rfl)
set_option maxHeartbeats 4000000 in
set_option maxRecDepth 100000 in
theorem j_J13_bitCount_95d88_10 {p : Program} {l : Launch} {e : Env} {s : State} {m : MethodId} {below : List Frame} {meth : Method} {c : Code} {args : Array Value} (dC : Nat → ClassId) (dI : Nat → Nat → Nat) (cI cJ : ClassId) (a : Int64) (C0 : Cx p s m meth c cJ13_bitCount_95d88 2 (some .int) wsJ13_bitCount_95d88 RJ13 args) (hK : va_K (dC, dI) vwCl [(cI, .int), (cJ, .long)] s) (hP : va_P (dC, dI) vwCl [] s.heap) (v0 : Int64) {V : Int32} (hV : (F_J13_bitCount_95d88_10 v0) = V) (ls : Array Slot) (hl : lv_has ls 2 [(0, .long v0)]) : W p l e rm_J13_bitCount_95d88 s m args below meth c s.heap [] 0 0 (MQ below (vp_Si (fun r => r = V)) args s 0 0 (fun _ => False)) (F0 m 10 ls []) := by
  obtain ⟨hx, hb, hr, hlk, hml, hown, hts⟩ := id C0
  refine lv_lload_n hx hb dJ13_bitCount_95d88_10 rfl (lv_at hl 0 rfl) ?_
  refine lv_ldc2 (v := (3689348814741910323 : Int64)) hx hb hown (hts _ mm_J13_bitCount_95d88_k316) dJ13_bitCount_95d88_11 ?_
  refine lv_land hx hb dJ13_bitCount_95d88_14 ?_
  refine lv_lload_n hx hb dJ13_bitCount_95d88_15 rfl (lv_at hl 0 rfl) ?_
  refine lv_iconst (v := (2 : Int32)) hx hb dJ13_bitCount_95d88_16 (by decide) ?_
  refine lv_lushr hx hb dJ13_bitCount_95d88_17 rfl ?_
  refine lv_ldc2 (v := (3689348814741910323 : Int64)) hx hb hown (hts _ mm_J13_bitCount_95d88_k316) dJ13_bitCount_95d88_18 ?_
  refine lv_land hx hb dJ13_bitCount_95d88_21 ?_
  refine lv_ladd hx hb dJ13_bitCount_95d88_22 ?_
  refine lv_lstore_n (lv' := [(0, .long ((v0 &&& (3689348814741910323 : Int64)) + (((v0.toUInt64 >>> ((2 : Int32).toInt64.toUInt64 &&& Int64.toUInt64 63)).toInt64) &&& (3689348814741910323 : Int64))))]) hx hb dJ13_bitCount_95d88_23 rfl hl (by decide) rfl (fun ls hl => ?_)
  have e9 : (F_J13_bitCount_95d88_10 v0) = (F_J13_bitCount_95d88_24 ((v0 &&& (3689348814741910323 : Int64)) + (((v0.toUInt64 >>> ((2 : Int32).toInt64.toUInt64 &&& Int64.toUInt64 63)).toInt64) &&& (3689348814741910323 : Int64)))) := by rw [F_J13_bitCount_95d88_10]
  rw [e9] at hV
  exact j_J13_bitCount_95d88_24 dC dI cI cJ a C0 hK hP ((v0 &&& (3689348814741910323 : Int64)) + (((v0.toUInt64 >>> ((2 : Int32).toInt64.toUInt64 &&& Int64.toUInt64 63)).toInt64) &&& (3689348814741910323 : Int64))) hV ls (lv_sub hl [0] rfl)
set_option maxHeartbeats 4000000 in
set_option maxRecDepth 100000 in
theorem w_J13_bitCount_95d88 {p : Program} {l : Launch} {e : Env} {s : State} {m : MethodId} {below : List Frame} {meth : Method} {c : Code} {args : Array Value} (dC : Nat → ClassId) (dI : Nat → Nat → Nat) (cI cJ : ClassId) (a : Int64) (C0 : Cx p s m meth c cJ13_bitCount_95d88 2 (some .int) wsJ13_bitCount_95d88 RJ13 args) (hK : va_K (dC, dI) vwCl [(cI, .int), (cJ, .long)] s) (hP : va_P (dC, dI) vwCl [] s.heap) {V : Int32} (hV : (F_J13_bitCount_95d88 a ) = V) (ls : Array Slot) (hl : lv_has ls 2 [(0, .long a)]) : W p l e rm_J13_bitCount_95d88 s m args below meth c s.heap [] 0 0 (MQ below (vp_Si (fun r => r = V)) args s 0 0 (fun _ => False)) (F0 m 0 ls []) := by
  obtain ⟨hx, hb, hr, hlk, hml, hown, hts⟩ := id C0
  refine lv_lload_n hx hb dJ13_bitCount_95d88_0 rfl (lv_at hl 0 rfl) ?_
  refine lv_lload_n hx hb dJ13_bitCount_95d88_1 rfl (lv_at hl 0 rfl) ?_
  refine lv_iconst (v := (1 : Int32)) hx hb dJ13_bitCount_95d88_2 (by decide) ?_
  refine lv_lushr hx hb dJ13_bitCount_95d88_3 rfl ?_
  refine lv_ldc2 (v := (6148914691236517205 : Int64)) hx hb hown (hts _ mm_J13_bitCount_95d88_k314) dJ13_bitCount_95d88_4 ?_
  refine lv_land hx hb dJ13_bitCount_95d88_7 ?_
  refine lv_lsub hx hb dJ13_bitCount_95d88_8 ?_
  refine lv_lstore_n (lv' := [(0, .long (a - (((a.toUInt64 >>> ((1 : Int32).toInt64.toUInt64 &&& Int64.toUInt64 63)).toInt64) &&& (6148914691236517205 : Int64))))]) hx hb dJ13_bitCount_95d88_9 rfl hl (by decide) rfl (fun ls hl => ?_)
  have e9 : (F_J13_bitCount_95d88 a ) = (F_J13_bitCount_95d88_10 (a - (((a.toUInt64 >>> ((1 : Int32).toInt64.toUInt64 &&& Int64.toUInt64 63)).toInt64) &&& (6148914691236517205 : Int64)))) := by rw [F_J13_bitCount_95d88]
  rw [e9] at hV
  exact j_J13_bitCount_95d88_10 dC dI cI cJ a C0 hK hP (a - (((a.toUInt64 >>> ((1 : Int32).toInt64.toUInt64 &&& Int64.toUInt64 63)).toInt64) &&& (6148914691236517205 : Int64))) hV ls (lv_sub hl [0] rfl)
theorem c_J13_bitCount_95d88 (l : Launch) (dC : Nat → ClassId) (dI : Nat → Nat → Nat) (cI cJ : ClassId) (a : Int64) : RoI l yJ13_bitCount_95d88 wsJ13_bitCount_95d88 rm_J13_bitCount_95d88 (dC, dI) [(cI, .int), (cJ, .long)] [] [.long a] (F_J13_bitCount_95d88 a ) := by
  refine RoI.mk (cc := cJ13_bitCount_95d88) (nL := 2) (ret := (some .int)) [(0, .long a)] (by decide) rfl (Nat.le_of_ble_eq_true rfl) rfl ?_
  intro p e s m below meth c C0 hP hK ls hl
  exact w_J13_bitCount_95d88 dC dI cI cJ a C0 hK hP rfl ls hl
