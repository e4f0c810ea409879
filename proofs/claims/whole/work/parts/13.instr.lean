-- X1_op
def F_X1_op (iop : Int32) : Int32 :=
  iop
abbrev rm_X1_op : Room := { frames := 0, cells := 0, slots := 0, locals := 0 }
set_option maxRecDepth 20000 in
theorem mi_X1_op_X1 : ∀ w ∈ wsX10, w ∈ wsX1_op := by decide +kernel
set_option maxRecDepth 20000 in
theorem mm_X1_op_f25 : Cond.fieldLink RX1 25 "ScoreboardCore$Instruction" "op" "I" ∈ wsX1_op := by decide +kernel
set_option maxHeartbeats 4000000 in
set_option maxRecDepth 100000 in
theorem w_X1_op {p : Program} {l : Launch} {e : Env} {s : State} {m : MethodId} {below : List Frame} {meth : Method} {c : Code} {args : Array Value} (dC : Nat → ClassId) (dI : Nat → Nat → Nat) (cI cJ : ClassId) (hI hN hR : Nat) (iop : Int32) (ii : Int32) (ij : Int32) (ik : Int32) (ic : Int32) (ip : Int32) (iu : Int32) (C0 : Cx p s m meth c cX1_op 1 (some .int) wsX1_op RX1 args) (hK : va_K (dC, dI) vwCl [(cI, .int), (cJ, .long)] s) (hP : va_P (dC, dI) vwCl [(hI, .inr (1, [.int iop, .int ii, .int ij, .int ik, .int ic, .int ip, .int iu, .ref hN, .ref hR]))] s.heap) {V : Int32} (hV : (F_X1_op iop ) = V) (ls : Array Slot) (hl : lv_has ls 1 [(0, .ref hI)]) : W p l e rm_X1_op s m args below meth c s.heap [] 0 0 (MQ below (vp_Si (fun r => r = V)) args s 0 0 (fun _ => False)) (F0 m 0 ls []) := by
  obtain ⟨hx, hb, hr, hlk, hml, hown, hts⟩ := id C0
  refine lv_aload_n hx hb dX1_op_0 rfl (lv_at hl 0 rfl) ?_
  refine va_get (D := (dC, dI)) (ci := 1) (v := .int iop) (C := RX1) (T := TX1) (N := 9) hx hb hts mi_X1_op_X1 hown hK hP 0 rfl rfl 0 (by decide) (hts (.fieldLink RX1 25 "ScoreboardCore$Instruction" "op" "I") mm_X1_op_f25) (fun _ h9 => h9) rfl dX1_op_1 ?_
  have e9 : (F_X1_op iop ) = iop := by rw [F_X1_op]
  rw [e9] at hV
  subst hV
  exact roRetI C0 rfl dX1_op_4
theorem c_X1_op (l : Launch) (dC : Nat → ClassId) (dI : Nat → Nat → Nat) (cI cJ : ClassId) (hI hN hR : Nat) (iop : Int32) (ii : Int32) (ij : Int32) (ik : Int32) (ic : Int32) (ip : Int32) (iu : Int32) : RoI l yX1_op wsX1_op rm_X1_op (dC, dI) [(cI, .int), (cJ, .long)] [(hI, .inr (1, [.int iop, .int ii, .int ij, .int ik, .int ic, .int ip, .int iu, .ref hN, .ref hR]))] [.ref hI] (F_X1_op iop ) := by
  refine RoI.mk (cc := cX1_op) (nL := 1) (ret := (some .int)) [(0, .ref hI)] (by decide) rfl (Nat.le_of_ble_eq_true rfl) rfl ?_
  intro p e s m below meth c C0 hP hK ls hl
  exact w_X1_op dC dI cI cJ hI hN hR iop ii ij ik ic ip iu C0 hK hP rfl ls hl

-- X1_i
def F_X1_i (ii : Int32) : Int32 :=
  ii
abbrev rm_X1_i : Room := { frames := 0, cells := 0, slots := 0, locals := 0 }
set_option maxRecDepth 20000 in
theorem mi_X1_i_X1 : ∀ w ∈ wsX10, w ∈ wsX1_i := by decide +kernel
set_option maxRecDepth 20000 in
theorem mm_X1_i_f28 : Cond.fieldLink RX1 28 "ScoreboardCore$Instruction" "i" "I" ∈ wsX1_i := by decide +kernel
set_option maxHeartbeats 4000000 in
set_option maxRecDepth 100000 in
theorem w_X1_i {p : Program} {l : Launch} {e : Env} {s : State} {m : MethodId} {below : List Frame} {meth : Method} {c : Code} {args : Array Value} (dC : Nat → ClassId) (dI : Nat → Nat → Nat) (cI cJ : ClassId) (hI hN hR : Nat) (iop : Int32) (ii : Int32) (ij : Int32) (ik : Int32) (ic : Int32) (ip : Int32) (iu : Int32) (C0 : Cx p s m meth c cX1_i 1 (some .int) wsX1_i RX1 args) (hK : va_K (dC, dI) vwCl [(cI, .int), (cJ, .long)] s) (hP : va_P (dC, dI) vwCl [(hI, .inr (1, [.int iop, .int ii, .int ij, .int ik, .int ic, .int ip, .int iu, .ref hN, .ref hR]))] s.heap) {V : Int32} (hV : (F_X1_i ii ) = V) (ls : Array Slot) (hl : lv_has ls 1 [(0, .ref hI)]) : W p l e rm_X1_i s m args below meth c s.heap [] 0 0 (MQ below (vp_Si (fun r => r = V)) args s 0 0 (fun _ => False)) (F0 m 0 ls []) := by
  obtain ⟨hx, hb, hr, hlk, hml, hown, hts⟩ := id C0
  refine lv_aload_n hx hb dX1_i_0 rfl (lv_at hl 0 rfl) ?_
  refine va_get (D := (dC, dI)) (ci := 1) (v := .int ii) (C := RX1) (T := TX1) (N := 9) hx hb hts mi_X1_i_X1 hown hK hP 0 rfl rfl 1 (by decide) (hts (.fieldLink RX1 28 "ScoreboardCore$Instruction" "i" "I") mm_X1_i_f28) (fun _ h9 => h9) rfl dX1_i_1 ?_
  have e9 : (F_X1_i ii ) = ii := by rw [F_X1_i]
  rw [e9] at hV
  subst hV
  exact roRetI C0 rfl dX1_i_4
theorem c_X1_i (l : Launch) (dC : Nat → ClassId) (dI : Nat → Nat → Nat) (cI cJ : ClassId) (hI hN hR : Nat) (iop : Int32) (ii : Int32) (ij : Int32) (ik : Int32) (ic : Int32) (ip : Int32) (iu : Int32) : RoI l yX1_i wsX1_i rm_X1_i (dC, dI) [(cI, .int), (cJ, .long)] [(hI, .inr (1, [.int iop, .int ii, .int ij, .int ik, .int ic, .int ip, .int iu, .ref hN, .ref hR]))] [.ref hI] (F_X1_i ii ) := by
  refine RoI.mk (cc := cX1_i) (nL := 1) (ret := (some .int)) [(0, .ref hI)] (by decide) rfl (Nat.le_of_ble_eq_true rfl) rfl ?_
  intro p e s m below meth c C0 hP hK ls hl
  exact w_X1_i dC dI cI cJ hI hN hR iop ii ij ik ic ip iu C0 hK hP rfl ls hl

-- X1_j
def F_X1_j (ij : Int32) : Int32 :=
  ij
abbrev rm_X1_j : Room := { frames := 0, cells := 0, slots := 0, locals := 0 }
set_option maxRecDepth 20000 in
theorem mi_X1_j_X1 : ∀ w ∈ wsX10, w ∈ wsX1_j := by decide +kernel
set_option maxRecDepth 20000 in
theorem mm_X1_j_f31 : Cond.fieldLink RX1 31 "ScoreboardCore$Instruction" "j" "I" ∈ wsX1_j := by decide +kernel
set_option maxHeartbeats 4000000 in
set_option maxRecDepth 100000 in
theorem w_X1_j {p : Program} {l : Launch} {e : Env} {s : State} {m : MethodId} {below : List Frame} {meth : Method} {c : Code} {args : Array Value} (dC : Nat → ClassId) (dI : Nat → Nat → Nat) (cI cJ : ClassId) (hI hN hR : Nat) (iop : Int32) (ii : Int32) (ij : Int32) (ik : Int32) (ic : Int32) (ip : Int32) (iu : Int32) (C0 : Cx p s m meth c cX1_j 1 (some .int) wsX1_j RX1 args) (hK : va_K (dC, dI) vwCl [(cI, .int), (cJ, .long)] s) (hP : va_P (dC, dI) vwCl [(hI, .inr (1, [.int iop, .int ii, .int ij, .int ik, .int ic, .int ip, .int iu, .ref hN, .ref hR]))] s.heap) {V : Int32} (hV : (F_X1_j ij ) = V) (ls : Array Slot) (hl : lv_has ls 1 [(0, .ref hI)]) : W p l e rm_X1_j s m args below meth c s.heap [] 0 0 (MQ below (vp_Si (fun r => r = V)) args s 0 0 (fun _ => False)) (F0 m 0 ls []) := by
  obtain ⟨hx, hb, hr, hlk, hml, hown, hts⟩ := id C0
  refine lv_aload_n hx hb dX1_j_0 rfl (lv_at hl 0 rfl) ?_
  refine va_get (D := (dC, dI)) (ci := 1) (v := .int ij) (C := RX1) (T := TX1) (N := 9) hx hb hts mi_X1_j_X1 hown hK hP 0 rfl rfl 2 (by decide) (hts (.fieldLink RX1 31 "ScoreboardCore$Instruction" "j" "I") mm_X1_j_f31) (fun _ h9 => h9) rfl dX1_j_1 ?_
  have e9 : (F_X1_j ij ) = ij := by rw [F_X1_j]
  rw [e9] at hV
  subst hV
  exact roRetI C0 rfl dX1_j_4
theorem c_X1_j (l : Launch) (dC : Nat → ClassId) (dI : Nat → Nat → Nat) (cI cJ : ClassId) (hI hN hR : Nat) (iop : Int32) (ii : Int32) (ij : Int32) (ik : Int32) (ic : Int32) (ip : Int32) (iu : Int32) : RoI l yX1_j wsX1_j rm_X1_j (dC, dI) [(cI, .int), (cJ, .long)] [(hI, .inr (1, [.int iop, .int ii, .int ij, .int ik, .int ic, .int ip, .int iu, .ref hN, .ref hR]))] [.ref hI] (F_X1_j ij ) := by
  refine RoI.mk (cc := cX1_j) (nL := 1) (ret := (some .int)) [(0, .ref hI)] (by decide) rfl (Nat.le_of_ble_eq_true rfl) rfl ?_
  intro p e s m below meth c C0 hP hK ls hl
  exact w_X1_j dC dI cI cJ hI hN hR iop ii ij ik ic ip iu C0 hK hP rfl ls hl

-- X1_k
def F_X1_k (ik : Int32) : Int32 :=
  ik
abbrev rm_X1_k : Room := { frames := 0, cells := 0, slots := 0, locals := 0 }
set_option maxRecDepth 20000 in
theorem mi_X1_k_X1 : ∀ w ∈ wsX10, w ∈ wsX1_k := by decide +kernel
set_option maxRecDepth 20000 in
theorem mm_X1_k_f34 : Cond.fieldLink RX1 34 "ScoreboardCore$Instruction" "k" "I" ∈ wsX1_k := by decide +kernel
set_option maxHeartbeats 4000000 in
set_option maxRecDepth 100000 in
theorem w_X1_k {p : Program} {l : Launch} {e : Env} {s : State} {m : MethodId} {below : List Frame} {meth : Method} {c : Code} {args : Array Value} (dC : Nat → ClassId) (dI : Nat → Nat → Nat) (cI cJ : ClassId) (hI hN hR : Nat) (iop : Int32) (ii : Int32) (ij : Int32) (ik : Int32) (ic : Int32) (ip : Int32) (iu : Int32) (C0 : Cx p s m meth c cX1_k 1 (some .int) wsX1_k RX1 args) (hK : va_K (dC, dI) vwCl [(cI, .int), (cJ, .long)] s) (hP : va_P (dC, dI) vwCl [(hI, .inr (1, [.int iop, .int ii, .int ij, .int ik, .int ic, .int ip, .int iu, .ref hN, .ref hR]))] s.heap) {V : Int32} (hV : (F_X1_k ik ) = V) (ls : Array Slot) (hl : lv_has ls 1 [(0, .ref hI)]) : W p l e rm_X1_k s m args below meth c s.heap [] 0 0 (MQ below (vp_Si (fun r => r = V)) args s 0 0 (fun _ => False)) (F0 m 0 ls []) := by
  obtain ⟨hx, hb, hr, hlk, hml, hown, hts⟩ := id C0
  refine lv_aload_n hx hb dX1_k_0 rfl (lv_at hl 0 rfl) ?_
  refine va_get (D := (dC, dI)) (ci := 1) (v := .int ik) (C := RX1) (T := TX1) (N := 9) hx hb hts mi_X1_k_X1 hown hK hP 0 rfl rfl 3 (by decide) (hts (.fieldLink RX1 34 "ScoreboardCore$Instruction" "k" "I") mm_X1_k_f34) (fun _ h9 => h9) rfl dX1_k_1 ?_
  have e9 : (F_X1_k ik ) = ik := by rw [F_X1_k]
  rw [e9] at hV
  subst hV
  exact roRetI C0 rfl dX1_k_4
theorem c_X1_k (l : Launch) (dC : Nat → ClassId) (dI : Nat → Nat → Nat) (cI cJ : ClassId) (hI hN hR : Nat) (iop : Int32) (ii : Int32) (ij : Int32) (ik : Int32) (ic : Int32) (ip : Int32) (iu : Int32) : RoI l yX1_k wsX1_k rm_X1_k (dC, dI) [(cI, .int), (cJ, .long)] [(hI, .inr (1, [.int iop, .int ii, .int ij, .int ik, .int ic, .int ip, .int iu, .ref hN, .ref hR]))] [.ref hI] (F_X1_k ik ) := by
  refine RoI.mk (cc := cX1_k) (nL := 1) (ret := (some .int)) [(0, .ref hI)] (by decide) rfl (Nat.le_of_ble_eq_true rfl) rfl ?_
  intro p e s m below meth c C0 hP hK ls hl
  exact w_X1_k dC dI cI cJ hI hN hR iop ii ij ik ic ip iu C0 hK hP rfl ls hl

-- X1_jk
def F_X1_jk (ij : Int32) (ik : Int32) : Int32 :=
  ((ij <<< ((3 : Int32) &&& 31)) ||| ik)
abbrev rm_X1_jk : Room := { frames := 0, cells := 0, slots := 0, locals := 0 }
set_option maxRecDepth 20000 in
theorem mi_X1_jk_X1 : ∀ w ∈ wsX10, w ∈ wsX1_jk := by decide +kernel
set_option maxRecDepth 20000 in
theorem mm_X1_jk_f31 : Cond.fieldLink RX1 31 "ScoreboardCore$Instruction" "j" "I" ∈ wsX1_jk := by decide +kernel
set_option maxRecDepth 20000 in
theorem mm_X1_jk_f34 : Cond.fieldLink RX1 34 "ScoreboardCore$Instruction" "k" "I" ∈ wsX1_jk := by decide +kernel
set_option maxHeartbeats 4000000 in
set_option maxRecDepth 100000 in
theorem w_X1_jk {p : Program} {l : Launch} {e : Env} {s : State} {m : MethodId} {below : List Frame} {meth : Method} {c : Code} {args : Array Value} (dC : Nat → ClassId) (dI : Nat → Nat → Nat) (cI cJ : ClassId) (hI hN hR : Nat) (iop : Int32) (ii : Int32) (ij : Int32) (ik : Int32) (ic : Int32) (ip : Int32) (iu : Int32) (C0 : Cx p s m meth c cX1_jk 1 (some .int) wsX1_jk RX1 args) (hK : va_K (dC, dI) vwCl [(cI, .int), (cJ, .long)] s) (hP : va_P (dC, dI) vwCl [(hI, .inr (1, [.int iop, .int ii, .int ij, .int ik, .int ic, .int ip, .int iu, .ref hN, .ref hR]))] s.heap) {V : Int32} (hV : (F_X1_jk ij ik ) = V) (ls : Array Slot) (hl : lv_has ls 1 [(0, .ref hI)]) : W p l e rm_X1_jk s m args below meth c s.heap [] 0 0 (MQ below (vp_Si (fun r => r = V)) args s 0 0 (fun _ => False)) (F0 m 0 ls []) := by
  obtain ⟨hx, hb, hr, hlk, hml, hown, hts⟩ := id C0
  refine lv_aload_n hx hb dX1_jk_0 rfl (lv_at hl 0 rfl) ?_
  refine va_get (D := (dC, dI)) (ci := 1) (v := .int ij) (C := RX1) (T := TX1) (N := 9) hx hb hts mi_X1_jk_X1 hown hK hP 0 rfl rfl 2 (by decide) (hts (.fieldLink RX1 31 "ScoreboardCore$Instruction" "j" "I") mm_X1_jk_f31) (fun _ h9 => h9) rfl dX1_jk_1 ?_
  refine lv_iconst (v := (3 : Int32)) hx hb dX1_jk_4 (by decide) ?_
  refine lv_ishl hx hb dX1_jk_5 ?_
  refine lv_aload_n hx hb dX1_jk_6 rfl (lv_at hl 0 rfl) ?_
  refine va_get (D := (dC, dI)) (ci := 1) (v := .int ik) (C := RX1) (T := TX1) (N := 9) hx hb hts mi_X1_jk_X1 hown hK hP 0 rfl rfl 3 (by decide) (hts (.fieldLink RX1 34 "ScoreboardCore$Instruction" "k" "I") mm_X1_jk_f34) (fun _ h9 => h9) rfl dX1_jk_7 ?_
  refine lv_ior hx hb dX1_jk_10 ?_
  have e9 : (F_X1_jk ij ik ) = ((ij <<< ((3 : Int32) &&& 31)) ||| ik) := by rw [F_X1_jk]
  rw [e9] at hV
  subst hV
  exact roRetI C0 rfl dX1_jk_11
theorem c_X1_jk (l : Launch) (dC : Nat → ClassId) (dI : Nat → Nat → Nat) (cI cJ : ClassId) (hI hN hR : Nat) (iop : Int32) (ii : Int32) (ij : Int32) (ik : Int32) (ic : Int32) (ip : Int32) (iu : Int32) : RoI l yX1_jk wsX1_jk rm_X1_jk (dC, dI) [(cI, .int), (cJ, .long)] [(hI, .inr (1, [.int iop, .int ii, .int ij, .int ik, .int ic, .int ip, .int iu, .ref hN, .ref hR]))] [.ref hI] (F_X1_jk ij ik ) := by
  refine RoI.mk (cc := cX1_jk) (nL := 1) (ret := (some .int)) [(0, .ref hI)] (by decide) rfl (Nat.le_of_ble_eq_true rfl) rfl ?_
  intro p e s m below meth c C0 hP hK ls hl
  exact w_X1_jk dC dI cI cJ hI hN hR iop ii ij ik ic ip iu C0 hK hP rfl ls hl

-- X1_constant
def F_X1_constant (ic : Int32) : Int32 :=
  ic
abbrev rm_X1_constant : Room := { frames := 0, cells := 0, slots := 0, locals := 0 }
set_option maxRecDepth 20000 in
theorem mi_X1_constant_X1 : ∀ w ∈ wsX10, w ∈ wsX1_constant := by decide +kernel
set_option maxRecDepth 20000 in
theorem mm_X1_constant_f38 : Cond.fieldLink RX1 38 "ScoreboardCore$Instruction" "constant" "I" ∈ wsX1_constant := by decide +kernel
set_option maxHeartbeats 4000000 in
set_option maxRecDepth 100000 in
theorem w_X1_constant {p : Program} {l : Launch} {e : Env} {s : State} {m : MethodId} {below : List Frame} {meth : Method} {c : Code} {args : Array Value} (dC : Nat → ClassId) (dI : Nat → Nat → Nat) (cI cJ : ClassId) (hI hN hR : Nat) (iop : Int32) (ii : Int32) (ij : Int32) (ik : Int32) (ic : Int32) (ip : Int32) (iu : Int32) (C0 : Cx p s m meth c cX1_constant 1 (some .int) wsX1_constant RX1 args) (hK : va_K (dC, dI) vwCl [(cI, .int), (cJ, .long)] s) (hP : va_P (dC, dI) vwCl [(hI, .inr (1, [.int iop, .int ii, .int ij, .int ik, .int ic, .int ip, .int iu, .ref hN, .ref hR]))] s.heap) {V : Int32} (hV : (F_X1_constant ic ) = V) (ls : Array Slot) (hl : lv_has ls 1 [(0, .ref hI)]) : W p l e rm_X1_constant s m args below meth c s.heap [] 0 0 (MQ below (vp_Si (fun r => r = V)) args s 0 0 (fun _ => False)) (F0 m 0 ls []) := by
  obtain ⟨hx, hb, hr, hlk, hml, hown, hts⟩ := id C0
  refine lv_aload_n hx hb dX1_constant_0 rfl (lv_at hl 0 rfl) ?_
  refine va_get (D := (dC, dI)) (ci := 1) (v := .int ic) (C := RX1) (T := TX1) (N := 9) hx hb hts mi_X1_constant_X1 hown hK hP 0 rfl rfl 4 (by decide) (hts (.fieldLink RX1 38 "ScoreboardCore$Instruction" "constant" "I") mm_X1_constant_f38) (fun _ h9 => h9) rfl dX1_constant_1 ?_
  have e9 : (F_X1_constant ic ) = ic := by rw [F_X1_constant]
  rw [e9] at hV
  subst hV
  exact roRetI C0 rfl dX1_constant_4
theorem c_X1_constant (l : Launch) (dC : Nat → ClassId) (dI : Nat → Nat → Nat) (cI cJ : ClassId) (hI hN hR : Nat) (iop : Int32) (ii : Int32) (ij : Int32) (ik : Int32) (ic : Int32) (ip : Int32) (iu : Int32) : RoI l yX1_constant wsX1_constant rm_X1_constant (dC, dI) [(cI, .int), (cJ, .long)] [(hI, .inr (1, [.int iop, .int ii, .int ij, .int ik, .int ic, .int ip, .int iu, .ref hN, .ref hR]))] [.ref hI] (F_X1_constant ic ) := by
  refine RoI.mk (cc := cX1_constant) (nL := 1) (ret := (some .int)) [(0, .ref hI)] (by decide) rfl (Nat.le_of_ble_eq_true rfl) rfl ?_
  intro p e s m below meth c C0 hP hK ls hl
  exact w_X1_constant dC dI cI cJ hI hN hR iop ii ij ik ic ip iu C0 hK hP rfl ls hl

-- X1_unit
def F_X1_unit (iu : Int32) : Int32 :=
  iu
abbrev rm_X1_unit : Room := { frames := 0, cells := 0, slots := 0, locals := 0 }
set_option maxRecDepth 20000 in
theorem mi_X1_unit_X1 : ∀ w ∈ wsX10, w ∈ wsX1_unit := by decide +kernel
set_option maxRecDepth 20000 in
theorem mm_X1_unit_f45 : Cond.fieldLink RX1 45 "ScoreboardCore$Instruction" "unit" "I" ∈ wsX1_unit := by decide +kernel
set_option maxHeartbeats 4000000 in
set_option maxRecDepth 100000 in
theorem w_X1_unit {p : Program} {l : Launch} {e : Env} {s : State} {m : MethodId} {below : List Frame} {meth : Method} {c : Code} {args : Array Value} (dC : Nat → ClassId) (dI : Nat → Nat → Nat) (cI cJ : ClassId) (hI hN hR : Nat) (iop : Int32) (ii : Int32) (ij : Int32) (ik : Int32) (ic : Int32) (ip : Int32) (iu : Int32) (C0 : Cx p s m meth c cX1_unit 1 (some .int) wsX1_unit RX1 args) (hK : va_K (dC, dI) vwCl [(cI, .int), (cJ, .long)] s) (hP : va_P (dC, dI) vwCl [(hI, .inr (1, [.int iop, .int ii, .int ij, .int ik, .int ic, .int ip, .int iu, .ref hN, .ref hR]))] s.heap) {V : Int32} (hV : (F_X1_unit iu ) = V) (ls : Array Slot) (hl : lv_has ls 1 [(0, .ref hI)]) : W p l e rm_X1_unit s m args below meth c s.heap [] 0 0 (MQ below (vp_Si (fun r => r = V)) args s 0 0 (fun _ => False)) (F0 m 0 ls []) := by
  obtain ⟨hx, hb, hr, hlk, hml, hown, hts⟩ := id C0
  refine lv_aload_n hx hb dX1_unit_0 rfl (lv_at hl 0 rfl) ?_
  refine va_get (D := (dC, dI)) (ci := 1) (v := .int iu) (C := RX1) (T := TX1) (N := 9) hx hb hts mi_X1_unit_X1 hown hK hP 0 rfl rfl 6 (by decide) (hts (.fieldLink RX1 45 "ScoreboardCore$Instruction" "unit" "I") mm_X1_unit_f45) (fun _ h9 => h9) rfl dX1_unit_1 ?_
  have e9 : (F_X1_unit iu ) = iu := by rw [F_X1_unit]
  rw [e9] at hV
  subst hV
  exact roRetI C0 rfl dX1_unit_4
theorem c_X1_unit (l : Launch) (dC : Nat → ClassId) (dI : Nat → Nat → Nat) (cI cJ : ClassId) (hI hN hR : Nat) (iop : Int32) (ii : Int32) (ij : Int32) (ik : Int32) (ic : Int32) (ip : Int32) (iu : Int32) : RoI l yX1_unit wsX1_unit rm_X1_unit (dC, dI) [(cI, .int), (cJ, .long)] [(hI, .inr (1, [.int iop, .int ii, .int ij, .int ik, .int ic, .int ip, .int iu, .ref hN, .ref hR]))] [.ref hI] (F_X1_unit iu ) := by
  refine RoI.mk (cc := cX1_unit) (nL := 1) (ret := (some .int)) [(0, .ref hI)] (by decide) rfl (Nat.le_of_ble_eq_true rfl) rfl ?_
  intro p e s m below meth c C0 hP hK ls hl
  exact w_X1_unit dC dI cI cJ hI hN hR iop ii ij ik ic ip iu C0 hK hP rfl ls hl

-- X1_needs
def F_X1_needs : Unit :=
  ()
abbrev rm_X1_needs : Room := { frames := 0, cells := 0, slots := 0, locals := 0 }
set_option maxRecDepth 20000 in
theorem mi_X1_needs_X1 : ∀ w ∈ wsX10, w ∈ wsX1_needs := by decide +kernel
set_option maxRecDepth 20000 in
theorem mm_X1_needs_f14 : Cond.fieldLink RX1 14 "ScoreboardCore$Instruction" "needs" "LScoreboardCore$RegisterList;" ∈ wsX1_needs := by decide +kernel
set_option maxHeartbeats 4000000 in
set_option maxRecDepth 100000 in
theorem w_X1_needs {p : Program} {l : Launch} {e : Env} {s : State} {m : MethodId} {below : List Frame} {meth : Method} {c : Code} {args : Array Value} (dC : Nat → ClassId) (dI : Nat → Nat → Nat) (cI cJ : ClassId) (hI hN hR : Nat) (iop : Int32) (ii : Int32) (ij : Int32) (ik : Int32) (ic : Int32) (ip : Int32) (iu : Int32) (C0 : Cx p s m meth c cX1_needs 1 (some (.object "ScoreboardCore$RegisterList")) wsX1_needs RX1 args) (hK : va_K (dC, dI) vwCl [(cI, .int), (cJ, .long)] s) (hP : va_P (dC, dI) vwCl [(hI, .inr (1, [.int iop, .int ii, .int ij, .int ik, .int ic, .int ip, .int iu, .ref hN, .ref hR]))] s.heap) (ls : Array Slot) (hl : lv_has ls 1 [(0, .ref hI)]) : W p l e rm_X1_needs s m args below meth c s.heap [] 0 0 (MQ below (va_Sr (fun r => r = hN) (fun k => Value.ref k)) args s 0 0 (fun _ => False)) (F0 m 0 ls []) := by
  obtain ⟨hx, hb, hr, hlk, hml, hown, hts⟩ := id C0
  refine lv_aload_n hx hb dX1_needs_0 rfl (lv_at hl 0 rfl) ?_
  refine va_get (D := (dC, dI)) (ci := 1) (v := .ref hN) (C := RX1) (T := TX1) (N := 9) hx hb hts mi_X1_needs_X1 hown hK hP 0 rfl rfl 7 (by decide) (hts (.fieldLink RX1 14 "ScoreboardCore$Instruction" "needs" "LScoreboardCore$RegisterList;") mm_X1_needs_f14) (fun _ h9 => h9) rfl dX1_needs_1 ?_
  exact roRetR C0 rfl dX1_needs_4
theorem c_X1_needs (l : Launch) (dC : Nat → ClassId) (dI : Nat → Nat → Nat) (cI cJ : ClassId) (hI hN hR : Nat) (iop : Int32) (ii : Int32) (ij : Int32) (ik : Int32) (ic : Int32) (ip : Int32) (iu : Int32) : RoR l yX1_needs wsX1_needs rm_X1_needs (dC, dI) [(cI, .int), (cJ, .long)] [(hI, .inr (1, [.int iop, .int ii, .int ij, .int ik, .int ic, .int ip, .int iu, .ref hN, .ref hR]))] [.ref hI] hN := by
  refine RoR.mk (cc := cX1_needs) (nL := 1) (ret := (some (.object "ScoreboardCore$RegisterList"))) [(0, .ref hI)] (by decide) rfl (Nat.le_of_ble_eq_true rfl) rfl ?_
  intro p e s m below meth c C0 hP hK ls hl
  exact w_X1_needs dC dI cI cJ hI hN hR iop ii ij ik ic ip iu C0 hK hP ls hl

-- X1_results
def F_X1_results : Unit :=
  ()
abbrev rm_X1_results : Room := { frames := 0, cells := 0, slots := 0, locals := 0 }
set_option maxRecDepth 20000 in
theorem mi_X1_results_X1 : ∀ w ∈ wsX10, w ∈ wsX1_results := by decide +kernel
set_option maxRecDepth 20000 in
theorem mm_X1_results_f18 : Cond.fieldLink RX1 18 "ScoreboardCore$Instruction" "results" "LScoreboardCore$RegisterList;" ∈ wsX1_results := by decide +kernel
set_option maxHeartbeats 4000000 in
set_option maxRecDepth 100000 in
theorem w_X1_results {p : Program} {l : Launch} {e : Env} {s : State} {m : MethodId} {below : List Frame} {meth : Method} {c : Code} {args : Array Value} (dC : Nat → ClassId) (dI : Nat → Nat → Nat) (cI cJ : ClassId) (hI hN hR : Nat) (iop : Int32) (ii : Int32) (ij : Int32) (ik : Int32) (ic : Int32) (ip : Int32) (iu : Int32) (C0 : Cx p s m meth c cX1_results 1 (some (.object "ScoreboardCore$RegisterList")) wsX1_results RX1 args) (hK : va_K (dC, dI) vwCl [(cI, .int), (cJ, .long)] s) (hP : va_P (dC, dI) vwCl [(hI, .inr (1, [.int iop, .int ii, .int ij, .int ik, .int ic, .int ip, .int iu, .ref hN, .ref hR]))] s.heap) (ls : Array Slot) (hl : lv_has ls 1 [(0, .ref hI)]) : W p l e rm_X1_results s m args below meth c s.heap [] 0 0 (MQ below (va_Sr (fun r => r = hR) (fun k => Value.ref k)) args s 0 0 (fun _ => False)) (F0 m 0 ls []) := by
  obtain ⟨hx, hb, hr, hlk, hml, hown, hts⟩ := id C0
  refine lv_aload_n hx hb dX1_results_0 rfl (lv_at hl 0 rfl) ?_
  refine va_get (D := (dC, dI)) (ci := 1) (v := .ref hR) (C := RX1) (T := TX1) (N := 9) hx hb hts mi_X1_results_X1 hown hK hP 0 rfl rfl 8 (by decide) (hts (.fieldLink RX1 18 "ScoreboardCore$Instruction" "results" "LScoreboardCore$RegisterList;") mm_X1_results_f18) (fun _ h9 => h9) rfl dX1_results_1 ?_
  exact roRetR C0 rfl dX1_results_4
theorem c_X1_results (l : Launch) (dC : Nat → ClassId) (dI : Nat → Nat → Nat) (cI cJ : ClassId) (hI hN hR : Nat) (iop : Int32) (ii : Int32) (ij : Int32) (ik : Int32) (ic : Int32) (ip : Int32) (iu : Int32) : RoR l yX1_results wsX1_results rm_X1_results (dC, dI) [(cI, .int), (cJ, .long)] [(hI, .inr (1, [.int iop, .int ii, .int ij, .int ik, .int ic, .int ip, .int iu, .ref hN, .ref hR]))] [.ref hI] hR := by
  refine RoR.mk (cc := cX1_results) (nL := 1) (ret := (some (.object "ScoreboardCore$RegisterList"))) [(0, .ref hI)] (by decide) rfl (Nat.le_of_ble_eq_true rfl) rfl ?_
  intro p e s m below meth c C0 hP hK ls hl
  exact w_X1_results dC dI cI cJ hI hN hR iop ii ij ik ic ip iu C0 hK hP ls hl

-- X1_isJump
def F_X1_isJump (iop : Int32) : Int32 :=
  (if iop ≤ 0 then (0 : Int32) else (if (7 : Int32) < iop then (0 : Int32) else (1 : Int32)))
abbrev rm_X1_isJump : Room := { frames := 0, cells := 0, slots := 0, locals := 0 }
set_option maxRecDepth 20000 in
theorem mi_X1_isJump_X1 : ∀ w ∈ wsX10, w ∈ wsX1_isJump := by decide +kernel
set_option maxRecDepth 20000 in
theorem mm_X1_isJump_f25 : Cond.fieldLink RX1 25 "ScoreboardCore$Instruction" "op" "I" ∈ wsX1_isJump := by decide +kernel
set_option maxHeartbeats 4000000 in
set_option maxRecDepth 100000 in
theorem w_X1_isJump {p : Program} {l : Launch} {e : Env} {s : State} {m : MethodId} {below : List Frame} {meth : Method} {c : Code} {args : Array Value} (dC : Nat → ClassId) (dI : Nat → Nat → Nat) (cI cJ : ClassId) (hI hN hR : Nat) (iop : Int32) (ii : Int32) (ij : Int32) (ik : Int32) (ic : Int32) (ip : Int32) (iu : Int32) (C0 : Cx p s m meth c cX1_isJump 1 (some .boolean) wsX1_isJump RX1 args) (hK : va_K (dC, dI) vwCl [(cI, .int), (cJ, .long)] s) (hP : va_P (dC, dI) vwCl [(hI, .inr (1, [.int iop, .int ii, .int ij, .int ik, .int ic, .int ip, .int iu, .ref hN, .ref hR]))] s.heap) {V : Int32} (hV : (F_X1_isJump iop ) = V) (ls : Array Slot) (hl : lv_has ls 1 [(0, .ref hI)]) : W p l e rm_X1_isJump s m args below meth c s.heap [] 0 0 (MQ below (vp_Si (fun r => r = V)) args s 0 0 (fun _ => False)) (F0 m 0 ls []) := by
  obtain ⟨hx, hb, hr, hlk, hml, hown, hts⟩ := id C0
  refine lv_aload_n hx hb dX1_isJump_0 rfl (lv_at hl 0 rfl) ?_
  refine va_get (D := (dC, dI)) (ci := 1) (v := .int iop) (C := RX1) (T := TX1) (N := 9) hx hb hts mi_X1_isJump_X1 hown hK hP 0 rfl rfl 0 (by decide) (hts (.fieldLink RX1 25 "ScoreboardCore$Instruction" "op" "I") mm_X1_isJump_f25) (fun _ h9 => h9) rfl dX1_isJump_1 ?_
  refine lv_if_le (x := iop) (tgt := 20) hx hb dX1_isJump_4 (by decide) (fun c1 => ?_) (fun c1 => ?_)
  · refine lv_iconst (v := (0 : Int32)) hx hb dX1_isJump_20 (by decide) ?_
    have e9 : (F_X1_isJump iop ) = (0 : Int32) := by rw [F_X1_isJump, if_pos c1]
    rw [e9] at hV
    subst hV
    exact roRetZ C0 rfl rfl dX1_isJump_21
  · refine lv_aload_n hx hb dX1_isJump_7 rfl (lv_at hl 0 rfl) ?_
    refine va_get (D := (dC, dI)) (ci := 1) (v := .int iop) (C := RX1) (T := TX1) (N := 9) hx hb hts mi_X1_isJump_X1 hown hK hP 0 rfl rfl 0 (by decide) (hts (.fieldLink RX1 25 "ScoreboardCore$Instruction" "op" "I") mm_X1_isJump_f25) (fun _ h9 => h9) rfl dX1_isJump_8 ?_
    refine lv_bipush (v := (7 : Int32)) hx hb dX1_isJump_11 (by decide) ?_
    refine lv_icmp_gt (x := iop) (y := (7 : Int32)) (tgt := 20) hx hb dX1_isJump_13 (by decide) (fun c2 => ?_) (fun c2 => ?_)
    · refine lv_iconst (v := (0 : Int32)) hx hb dX1_isJump_20 (by decide) ?_
      have e9 : (F_X1_isJump iop ) = (0 : Int32) := by rw [F_X1_isJump, if_neg c1, if_pos c2]
      rw [e9] at hV
      subst hV
      exact roRetZ C0 rfl rfl dX1_isJump_21
    · refine lv_iconst (v := (1 : Int32)) hx hb dX1_isJump_16 (by decide) ?_
      refine lv_goto (tgt := 21) hx hb dX1_isJump_17 (by decide) ?_
      have e9 : (F_X1_isJump iop ) = (1 : Int32) := by rw [F_X1_isJump, if_neg c1, if_neg c2]
      rw [e9] at hV
      subst hV
      exact roRetZ C0 rfl rfl dX1_isJump_21
theorem c_X1_isJump (l : Launch) (dC : Nat → ClassId) (dI : Nat → Nat → Nat) (cI cJ : ClassId) (hI hN hR : Nat) (iop : Int32) (ii : Int32) (ij : Int32) (ik : Int32) (ic : Int32) (ip : Int32) (iu : Int32) : RoI l yX1_isJump wsX1_isJump rm_X1_isJump (dC, dI) [(cI, .int), (cJ, .long)] [(hI, .inr (1, [.int iop, .int ii, .int ij, .int ik, .int ic, .int ip, .int iu, .ref hN, .ref hR]))] [.ref hI] (F_X1_isJump iop ) := by
  refine RoI.mk (cc := cX1_isJump) (nL := 1) (ret := (some .boolean)) [(0, .ref hI)] (by decide) rfl (Nat.le_of_ble_eq_true rfl) rfl ?_
  intro p e s m below meth c C0 hP hK ls hl
  exact w_X1_isJump dC dI cI cJ hI hN hR iop ii ij ik ic ip iu C0 hK hP rfl ls hl

-- X1_parcels
def F_X1_parcels_32 (t0 : Int32) : Int32 :=
  (if t0 = 0 then (1 : Int32) else (2 : Int32))
def F_X1_parcels_27 : Int32 :=
  (F_X1_parcels_32 (1 : Int32))
def F_X1_parcels_31 : Int32 :=
  (F_X1_parcels_32 (0 : Int32))
def F_X1_parcels (iop : Int32) : Int32 :=
  (if (F_X1_isJump iop) = 0 then (if iop < (40 : Int32) then (F_X1_parcels_31 ) else (if (2 : Int32) < (iop &&& (7 : Int32)) then (F_X1_parcels_31 ) else (F_X1_parcels_27 ))) else (F_X1_parcels_27 ))
abbrev rm_X1_parcels : Room := { frames := 1, cells := 0, slots := 0, locals := 20 }
set_option maxRecDepth 20000 in
theorem mi_X1_parcels_X1 : ∀ w ∈ wsX10, w ∈ wsX1_parcels := by decide +kernel
set_option maxRecDepth 20000 in
theorem mm_X1_parcels_f25 : Cond.fieldLink RX1 25 "ScoreboardCore$Instruction" "op" "I" ∈ wsX1_parcels := by decide +kernel
set_option maxRecDepth 20000 in
theorem mm_X1_parcels_iX1 : Cond.initialized RX1 ∈ wsX1_parcels := by decide +kernel
set_option maxRecDepth 20000 in
theorem mm_X1_parcels_l57 : Cond.methodLink RX1 57 yX1_isJump ∈ wsX1_parcels := by decide +kernel
set_option maxRecDepth 20000 in
theorem mm_X1_parcels_nX1_isJump : Cond.instanceMethod yX1_isJump ∈ wsX1_parcels := by decide +kernel
set_option maxRecDepth 20000 in
theorem mm_X1_parcels_sX1_isJump : Cond.selects RX1 yX1_isJump yX1_isJump ∈ wsX1_parcels := by decide +kernel
set_option maxHeartbeats 4000000 in
set_option maxRecDepth 100000 in
theorem j_X1_parcels_32 {p : Program} {l : Launch} {e : Env} {s : State} {m : MethodId} {below : List Frame} {meth : Method} {c : Code} {args : Array Value} (dC : Nat → ClassId) (dI : Nat → Nat → Nat) (cI cJ : ClassId) (hI hN hR : Nat) (iop : Int32) (ii : Int32) (ij : Int32) (ik : Int32) (ic : Int32) (ip : Int32) (iu : Int32) (C0 : Cx p s m meth c cX1_parcels 2 (some .int) wsX1_parcels RX1 args) (hK : va_K (dC, dI) vwCl [(cI, .int), (cJ, .long)] s) (hP : va_P (dC, dI) vwCl [(hI, .inr (1, [.int iop, .int ii, .int ij, .int ik, .int ic, .int ip, .int iu, .ref hN, .ref hR]))] s.heap) (t0 : Int32) {V : Int32} (hV : (F_X1_parcels_32 t0) = V) (ls : Array Slot) (hl : lv_has ls 2 []) : W p l e rm_X1_parcels s m args below meth c s.heap [] 0 0 (MQ below (vp_Si (fun r => r = V)) args s 0 0 (fun _ => False)) (F0 m 32 ls [.int t0]) := by
  obtain ⟨hx, hb, hr, hlk, hml, hown, hts⟩ := id C0
  refine lv_istore_n (lv' := [(1, .int t0)]) hx hb dX1_parcels_32 rfl hl (by decide) rfl (fun ls hl => ?_)
  refine lv_iload_n hx hb dX1_parcels_33 rfl (lv_at hl 0 rfl) ?_
  refine lv_if_eq (x := t0) (tgt := 41) hx hb dX1_parcels_34 (by decide) (fun c1 => ?_) (fun c1 => ?_)
  · refine lv_iconst (v := (1 : Int32)) hx hb dX1_parcels_41 (by decide) ?_
    have e9 : (F_X1_parcels_32 t0) = (1 : Int32) := by rw [F_X1_parcels_32, if_pos c1]
    rw [e9] at hV
    subst hV
    exact roRetI C0 rfl dX1_parcels_42
  · refine lv_iconst (v := (2 : Int32)) hx hb dX1_parcels_37 (by decide) ?_
    refine lv_goto (tgt := 42) hx hb dX1_parcels_38 (by decide) ?_
    have e9 : (F_X1_parcels_32 t0) = (2 : Int32) := by rw [F_X1_parcels_32, if_neg c1]
    rw [e9] at hV
    subst hV
    exact roRetI C0 rfl dX1_parcels_42
set_option maxHeartbeats 4000000 in
set_option maxRecDepth 100000 in
theorem j_X1_parcels_27 {p : Program} {l : Launch} {e : Env} {s : State} {m : MethodId} {below : List Frame} {meth : Method} {c : Code} {args : Array Value} (dC : Nat → ClassId) (dI : Nat → Nat → Nat) (cI cJ : ClassId) (hI hN hR : Nat) (iop : Int32) (ii : Int32) (ij : Int32) (ik : Int32) (ic : Int32) (ip : Int32) (iu : Int32) (C0 : Cx p s m meth c cX1_parcels 2 (some .int) wsX1_parcels RX1 args) (hK : va_K (dC, dI) vwCl [(cI, .int), (cJ, .long)] s) (hP : va_P (dC, dI) vwCl [(hI, .inr (1, [.int iop, .int ii, .int ij, .int ik, .int ic, .int ip, .int iu, .ref hN, .ref hR]))] s.heap) {V : Int32} (hV : (F_X1_parcels_27 ) = V) (ls : Array Slot) (hl : lv_has ls 2 []) : W p l e rm_X1_parcels s m args below meth c s.heap [] 0 0 (MQ below (vp_Si (fun r => r = V)) args s 0 0 (fun _ => False)) (F0 m 27 ls []) := by
  obtain ⟨hx, hb, hr, hlk, hml, hown, hts⟩ := id C0
  refine lv_iconst (v := (1 : Int32)) hx hb dX1_parcels_27 (by decide) ?_
  refine lv_goto (tgt := 32) hx hb dX1_parcels_28 (by decide) ?_
  have e9 : (F_X1_parcels_27 ) = (F_X1_parcels_32 (1 : Int32)) := by rw [F_X1_parcels_27]
  rw [e9] at hV
  exact j_X1_parcels_32 dC dI cI cJ hI hN hR iop ii ij ik ic ip iu C0 hK hP (1 : Int32) hV ls (lv_sub hl [] rfl)
set_option maxHeartbeats 4000000 in
set_option maxRecDepth 100000 in
theorem j_X1_parcels_31 {p : Program} {l : Launch} {e : Env} {s : State} {m : MethodId} {below : List Frame} {meth : Method} {c : Code} {args : Array Value} (dC : Nat → ClassId) (dI : Nat → Nat → Nat) (cI cJ : ClassId) (hI hN hR : Nat) (iop : Int32) (ii : Int32) (ij : Int32) (ik : Int32) (ic : Int32) (ip : Int32) (iu : Int32) (C0 : Cx p s m meth c cX1_parcels 2 (some .int) wsX1_parcels RX1 args) (hK : va_K (dC, dI) vwCl [(cI, .int), (cJ, .long)] s) (hP : va_P (dC, dI) vwCl [(hI, .inr (1, [.int iop, .int ii, .int ij, .int ik, .int ic, .int ip, .int iu, .ref hN, .ref hR]))] s.heap) {V : Int32} (hV : (F_X1_parcels_31 ) = V) (ls : Array Slot) (hl : lv_has ls 2 []) : W p l e rm_X1_parcels s m args below meth c s.heap [] 0 0 (MQ below (vp_Si (fun r => r = V)) args s 0 0 (fun _ => False)) (F0 m 31 ls []) := by
  obtain ⟨hx, hb, hr, hlk, hml, hown, hts⟩ := id C0
  refine lv_iconst (v := (0 : Int32)) hx hb dX1_parcels_31 (by decide) ?_
  have e9 : (F_X1_parcels_31 ) = (F_X1_parcels_32 (0 : Int32)) := by rw [F_X1_parcels_31]
  rw [e9] at hV
  exact j_X1_parcels_32 dC dI cI cJ hI hN hR iop ii ij ik ic ip iu C0 hK hP (0 : Int32) hV ls (lv_sub hl [] rfl)
set_option maxHeartbeats 4000000 in
set_option maxRecDepth 100000 in
theorem w_X1_parcels {p : Program} {l : Launch} {e : Env} {s : State} {m : MethodId} {below : List Frame} {meth : Method} {c : Code} {args : Array Value} (dC : Nat → ClassId) (dI : Nat → Nat → Nat) (cI cJ : ClassId) (hI hN hR : Nat) (iop : Int32) (ii : Int32) (ij : Int32) (ik : Int32) (ic : Int32) (ip : Int32) (iu : Int32) (C0 : Cx p s m meth c cX1_parcels 2 (some .int) wsX1_parcels RX1 args) (hK : va_K (dC, dI) vwCl [(cI, .int), (cJ, .long)] s) (hP : va_P (dC, dI) vwCl [(hI, .inr (1, [.int iop, .int ii, .int ij, .int ik, .int ic, .int ip, .int iu, .ref hN, .ref hR]))] s.heap) {V : Int32} (hV : (F_X1_parcels iop ) = V) (ls : Array Slot) (hl : lv_has ls 2 [(0, .ref hI)]) : W p l e rm_X1_parcels s m args below meth c s.heap [] 0 0 (MQ below (vp_Si (fun r => r = V)) args s 0 0 (fun _ => False)) (F0 m 0 ls []) := by
  obtain ⟨hx, hb, hr, hlk, hml, hown, hts⟩ := id C0
  refine lv_aload_n hx hb dX1_parcels_0 rfl (lv_at hl 0 rfl) ?_
  refine roVi (As := []) (rest := []) (bytes := cX1_isJump) (maxL := 1) (rty := (some .boolean)) (n := 0) (ci := 1) C0 (c_X1_isJump l dC dI cI cJ hI hN hR iop ii ij ik ic ip iu) ⟨rfl, rfl, rfl, by decide +kernel, by decide, by decide⟩ ggX1_parcels_X1_isJump mm_X1_parcels_iX1 mm_X1_parcels_l57 mm_X1_parcels_nX1_isJump mm_X1_parcels_sX1_isJump rfl rfl (hP.sub (ws' := [(hI, .inr (1, [.int iop, .int ii, .int ij, .int ik, .int ic, .int ip, .int iu, .ref hN, .ref hR]))]) [0] rfl) hK hl.1 rfl rfl (Nat.le_of_ble_eq_true rfl) dX1_parcels_1 ⟨Nat.zero_le _, Nat.zero_le _⟩ ?_
  refine lv_if_ne (x := (F_X1_isJump iop)) (tgt := 27) hx hb dX1_parcels_4 (by decide) (fun c1 => ?_) (fun c1 => ?_)
  · have e9 : (F_X1_parcels iop ) = (F_X1_parcels_27 ) := by rw [F_X1_parcels, if_neg c1]
    rw [e9] at hV
    exact j_X1_parcels_27 dC dI cI cJ hI hN hR iop ii ij ik ic ip iu C0 hK hP  hV ls (lv_sub hl [] rfl)
  · refine lv_aload_n hx hb dX1_parcels_7 rfl (lv_at hl 0 rfl) ?_
    refine va_get (D := (dC, dI)) (ci := 1) (v := .int iop) (C := RX1) (T := TX1) (N := 9) hx hb hts mi_X1_parcels_X1 hown hK hP 0 rfl rfl 0 (by decide) (hts (.fieldLink RX1 25 "ScoreboardCore$Instruction" "op" "I") mm_X1_parcels_f25) (fun _ h9 => h9) rfl dX1_parcels_8 ?_
    refine lv_bipush (v := (40 : Int32)) hx hb dX1_parcels_11 (by decide) ?_
    refine lv_icmp_lt (x := iop) (y := (40 : Int32)) (tgt := 31) hx hb dX1_parcels_13 (by decide) (fun c2 => ?_) (fun c2 => ?_)
    · have e9 : (F_X1_parcels iop ) = (F_X1_parcels_31 ) := by rw [F_X1_parcels, if_pos c1, if_pos c2]
      rw [e9] at hV
      exact j_X1_parcels_31 dC dI cI cJ hI hN hR iop ii ij ik ic ip iu C0 hK hP  hV ls (lv_sub hl [] rfl)
    · refine lv_aload_n hx hb dX1_parcels_16 rfl (lv_at hl 0 rfl) ?_
      refine va_get (D := (dC, dI)) (ci := 1) (v := .int iop) (C := RX1) (T := TX1) (N := 9) hx hb hts mi_X1_parcels_X1 hown hK hP 0 rfl rfl 0 (by decide) (hts (.fieldLink RX1 25 "ScoreboardCore$Instruction" "op" "I") mm_X1_parcels_f25) (fun _ h9 => h9) rfl dX1_parcels_17 ?_
      refine lv_bipush (v := (7 : Int32)) hx hb dX1_parcels_20 (by decide) ?_
      refine lv_iand hx hb dX1_parcels_22 ?_
      refine lv_iconst (v := (2 : Int32)) hx hb dX1_parcels_23 (by decide) ?_
      refine lv_icmp_gt (x := (iop &&& (7 : Int32))) (y := (2 : Int32)) (tgt := 31) hx hb dX1_parcels_24 (by decide) (fun c3 => ?_) (fun c3 => ?_)
      · have e9 : (F_X1_parcels iop ) = (F_X1_parcels_31 ) := by rw [F_X1_parcels, if_pos c1, if_neg c2, if_pos c3]
        rw [e9] at hV
        exact j_X1_parcels_31 dC dI cI cJ hI hN hR iop ii ij ik ic ip iu C0 hK hP  hV ls (lv_sub hl [] rfl)
      · have e9 : (F_X1_parcels iop ) = (F_X1_parcels_27 ) := by rw [F_X1_parcels, if_pos c1, if_neg c2, if_neg c3]
        rw [e9] at hV
        exact j_X1_parcels_27 dC dI cI cJ hI hN hR iop ii ij ik ic ip iu C0 hK hP  hV ls (lv_sub hl [] rfl)
theorem c_X1_parcels (l : Launch) (dC : Nat → ClassId) (dI : Nat → Nat → Nat) (cI cJ : ClassId) (hI hN hR : Nat) (iop : Int32) (ii : Int32) (ij : Int32) (ik : Int32) (ic : Int32) (ip : Int32) (iu : Int32) : RoI l yX1_parcels wsX1_parcels rm_X1_parcels (dC, dI) [(cI, .int), (cJ, .long)] [(hI, .inr (1, [.int iop, .int ii, .int ij, .int ik, .int ic, .int ip, .int iu, .ref hN, .ref hR]))] [.ref hI] (F_X1_parcels iop ) := by
  refine RoI.mk (cc := cX1_parcels) (nL := 2) (ret := (some .int)) [(0, .ref hI)] (by decide) rfl (Nat.le_of_ble_eq_true rfl) rfl ?_
  intro p e s m below meth c C0 hP hK ls hl
  exact w_X1_parcels dC dI cI cJ hI hN hR iop ii ij ik ic ip iu C0 hK hP rfl ls hl

-- X1_loads
def F_X1_loads (iop : Int32) (ii : Int32) : Int32 :=
  (if (iop >>> ((3 : Int32) &&& 31)) = (5 : Int32) then (if ii < (1 : Int32) then (0 : Int32) else (if (5 : Int32) < ii then (0 : Int32) else (1 : Int32))) else (0 : Int32))
abbrev rm_X1_loads : Room := { frames := 0, cells := 0, slots := 0, locals := 0 }
set_option maxRecDepth 20000 in
theorem mi_X1_loads_X1 : ∀ w ∈ wsX10, w ∈ wsX1_loads := by decide +kernel
set_option maxRecDepth 20000 in
theorem mm_X1_loads_f25 : Cond.fieldLink RX1 25 "ScoreboardCore$Instruction" "op" "I" ∈ wsX1_loads := by decide +kernel
set_option maxRecDepth 20000 in
theorem mm_X1_loads_f28 : Cond.fieldLink RX1 28 "ScoreboardCore$Instruction" "i" "I" ∈ wsX1_loads := by decide +kernel
set_option maxHeartbeats 4000000 in
set_option maxRecDepth 100000 in
theorem w_X1_loads {p : Program} {l : Launch} {e : Env} {s : State} {m : MethodId} {below : List Frame} {meth : Method} {c : Code} {args : Array Value} (dC : Nat → ClassId) (dI : Nat → Nat → Nat) (cI cJ : ClassId) (hI hN hR : Nat) (iop : Int32) (ii : Int32) (ij : Int32) (ik : Int32) (ic : Int32) (ip : Int32) (iu : Int32) (C0 : Cx p s m meth c cX1_loads 1 (some .boolean) wsX1_loads RX1 args) (hK : va_K (dC, dI) vwCl [(cI, .int), (cJ, .long)] s) (hP : va_P (dC, dI) vwCl [(hI, .inr (1, [.int iop, .int ii, .int ij, .int ik, .int ic, .int ip, .int iu, .ref hN, .ref hR]))] s.heap) {V : Int32} (hV : (F_X1_loads iop ii ) = V) (ls : Array Slot) (hl : lv_has ls 1 [(0, .ref hI)]) : W p l e rm_X1_loads s m args below meth c s.heap [] 0 0 (MQ below (vp_Si (fun r => r = V)) args s 0 0 (fun _ => False)) (F0 m 0 ls []) := by
  obtain ⟨hx, hb, hr, hlk, hml, hown, hts⟩ := id C0
  refine lv_aload_n hx hb dX1_loads_0 rfl (lv_at hl 0 rfl) ?_
  refine va_get (D := (dC, dI)) (ci := 1) (v := .int iop) (C := RX1) (T := TX1) (N := 9) hx hb hts mi_X1_loads_X1 hown hK hP 0 rfl rfl 0 (by decide) (hts (.fieldLink RX1 25 "ScoreboardCore$Instruction" "op" "I") mm_X1_loads_f25) (fun _ h9 => h9) rfl dX1_loads_1 ?_
  refine lv_iconst (v := (3 : Int32)) hx hb dX1_loads_4 (by decide) ?_
  refine lv_ishr hx hb dX1_loads_5 ?_
  refine lv_iconst (v := (5 : Int32)) hx hb dX1_loads_6 (by decide) ?_
  refine lv_icmp_ne (x := (iop >>> ((3 : Int32) &&& 31))) (y := (5 : Int32)) (tgt := 30) hx hb dX1_loads_7 (by decide) (fun c1 => ?_) (fun c1 => ?_)
  · refine lv_iconst (v := (0 : Int32)) hx hb dX1_loads_30 (by decide) ?_
    have e9 : (F_X1_loads iop ii ) = (0 : Int32) := by rw [F_X1_loads, if_neg c1]
    rw [e9] at hV
    subst hV
    exact roRetZ C0 rfl rfl dX1_loads_31
  · refine lv_aload_n hx hb dX1_loads_10 rfl (lv_at hl 0 rfl) ?_
    refine va_get (D := (dC, dI)) (ci := 1) (v := .int ii) (C := RX1) (T := TX1) (N := 9) hx hb hts mi_X1_loads_X1 hown hK hP 0 rfl rfl 1 (by decide) (hts (.fieldLink RX1 28 "ScoreboardCore$Instruction" "i" "I") mm_X1_loads_f28) (fun _ h9 => h9) rfl dX1_loads_11 ?_
    refine lv_iconst (v := (1 : Int32)) hx hb dX1_loads_14 (by decide) ?_
    refine lv_icmp_lt (x := ii) (y := (1 : Int32)) (tgt := 30) hx hb dX1_loads_15 (by decide) (fun c2 => ?_) (fun c2 => ?_)
    · refine lv_iconst (v := (0 : Int32)) hx hb dX1_loads_30 (by decide) ?_
      have e9 : (F_X1_loads iop ii ) = (0 : Int32) := by rw [F_X1_loads, if_pos c1, if_pos c2]
      rw [e9] at hV
      subst hV
      exact roRetZ C0 rfl rfl dX1_loads_31
    · refine lv_aload_n hx hb dX1_loads_18 rfl (lv_at hl 0 rfl) ?_
      refine va_get (D := (dC, dI)) (ci := 1) (v := .int ii) (C := RX1) (T := TX1) (N := 9) hx hb hts mi_X1_loads_X1 hown hK hP 0 rfl rfl 1 (by decide) (hts (.fieldLink RX1 28 "ScoreboardCore$Instruction" "i" "I") mm_X1_loads_f28) (fun _ h9 => h9) rfl dX1_loads_19 ?_
      refine lv_iconst (v := (5 : Int32)) hx hb dX1_loads_22 (by decide) ?_
      refine lv_icmp_gt (x := ii) (y := (5 : Int32)) (tgt := 30) hx hb dX1_loads_23 (by decide) (fun c3 => ?_) (fun c3 => ?_)
      · refine lv_iconst (v := (0 : Int32)) hx hb dX1_loads_30 (by decide) ?_
        have e9 : (F_X1_loads iop ii ) = (0 : Int32) := by rw [F_X1_loads, if_pos c1, if_neg c2, if_pos c3]
        rw [e9] at hV
        subst hV
        exact roRetZ C0 rfl rfl dX1_loads_31
      · refine lv_iconst (v := (1 : Int32)) hx hb dX1_loads_26 (by decide) ?_
        refine lv_goto (tgt := 31) hx hb dX1_loads_27 (by decide) ?_
        have e9 : (F_X1_loads iop ii ) = (1 : Int32) := by rw [F_X1_loads, if_pos c1, if_neg c2, if_neg c3]
        rw [e9] at hV
        subst hV
        exact roRetZ C0 rfl rfl dX1_loads_31
theorem c_X1_loads (l : Launch) (dC : Nat → ClassId) (dI : Nat → Nat → Nat) (cI cJ : ClassId) (hI hN hR : Nat) (iop : Int32) (ii : Int32) (ij : Int32) (ik : Int32) (ic : Int32) (ip : Int32) (iu : Int32) : RoI l yX1_loads wsX1_loads rm_X1_loads (dC, dI) [(cI, .int), (cJ, .long)] [(hI, .inr (1, [.int iop, .int ii, .int ij, .int ik, .int ic, .int ip, .int iu, .ref hN, .ref hR]))] [.ref hI] (F_X1_loads iop ii ) := by
  refine RoI.mk (cc := cX1_loads) (nL := 1) (ret := (some .boolean)) [(0, .ref hI)] (by decide) rfl (Nat.le_of_ble_eq_true rfl) rfl ?_
  intro p e s m below meth c C0 hP hK ls hl
  exact w_X1_loads dC dI cI cJ hI hN hR iop ii ij ik ic ip iu C0 hK hP rfl ls hl

-- X1_stores
def F_X1_stores (iop : Int32) (ii : Int32) : Int32 :=
  (if (iop >>> ((3 : Int32) &&& 31)) = (5 : Int32) then (if ii < (6 : Int32) then (0 : Int32) else (1 : Int32)) else (0 : Int32))
abbrev rm_X1_stores : Room := { frames := 0, cells := 0, slots := 0, locals := 0 }
set_option maxRecDepth 20000 in
theorem mi_X1_stores_X1 : ∀ w ∈ wsX10, w ∈ wsX1_stores := by decide +kernel
set_option maxRecDepth 20000 in
theorem mm_X1_stores_f25 : Cond.fieldLink RX1 25 "ScoreboardCore$Instruction" "op" "I" ∈ wsX1_stores := by decide +kernel
set_option maxRecDepth 20000 in
theorem mm_X1_stores_f28 : Cond.fieldLink RX1 28 "ScoreboardCore$Instruction" "i" "I" ∈ wsX1_stores := by decide +kernel
set_option maxHeartbeats 4000000 in
set_option maxRecDepth 100000 in
theorem w_X1_stores {p : Program} {l : Launch} {e : Env} {s : State} {m : MethodId} {below : List Frame} {meth : Method} {c : Code} {args : Array Value} (dC : Nat → ClassId) (dI : Nat → Nat → Nat) (cI cJ : ClassId) (hI hN hR : Nat) (iop : Int32) (ii : Int32) (ij : Int32) (ik : Int32) (ic : Int32) (ip : Int32) (iu : Int32) (C0 : Cx p s m meth c cX1_stores 1 (some .boolean) wsX1_stores RX1 args) (hK : va_K (dC, dI) vwCl [(cI, .int), (cJ, .long)] s) (hP : va_P (dC, dI) vwCl [(hI, .inr (1, [.int iop, .int ii, .int ij, .int ik, .int ic, .int ip, .int iu, .ref hN, .ref hR]))] s.heap) {V : Int32} (hV : (F_X1_stores iop ii ) = V) (ls : Array Slot) (hl : lv_has ls 1 [(0, .ref hI)]) : W p l e rm_X1_stores s m args below meth c s.heap [] 0 0 (MQ below (vp_Si (fun r => r = V)) args s 0 0 (fun _ => False)) (F0 m 0 ls []) := by
  obtain ⟨hx, hb, hr, hlk, hml, hown, hts⟩ := id C0
  refine lv_aload_n hx hb dX1_stores_0 rfl (lv_at hl 0 rfl) ?_
  refine va_get (D := (dC, dI)) (ci := 1) (v := .int iop) (C := RX1) (T := TX1) (N := 9) hx hb hts mi_X1_stores_X1 hown hK hP 0 rfl rfl 0 (by decide) (hts (.fieldLink RX1 25 "ScoreboardCore$Instruction" "op" "I") mm_X1_stores_f25) (fun _ h9 => h9) rfl dX1_stores_1 ?_
  refine lv_iconst (v := (3 : Int32)) hx hb dX1_stores_4 (by decide) ?_
  refine lv_ishr hx hb dX1_stores_5 ?_
  refine lv_iconst (v := (5 : Int32)) hx hb dX1_stores_6 (by decide) ?_
  refine lv_icmp_ne (x := (iop >>> ((3 : Int32) &&& 31))) (y := (5 : Int32)) (tgt := 23) hx hb dX1_stores_7 (by decide) (fun c1 => ?_) (fun c1 => ?_)
  · refine lv_iconst (v := (0 : Int32)) hx hb dX1_stores_23 (by decide) ?_
    have e9 : (F_X1_stores iop ii ) = (0 : Int32) := by rw [F_X1_stores, if_neg c1]
    rw [e9] at hV
    subst hV
    exact roRetZ C0 rfl rfl dX1_stores_24
  · refine lv_aload_n hx hb dX1_stores_10 rfl (lv_at hl 0 rfl) ?_
    refine va_get (D := (dC, dI)) (ci := 1) (v := .int ii) (C := RX1) (T := TX1) (N := 9) hx hb hts mi_X1_stores_X1 hown hK hP 0 rfl rfl 1 (by decide) (hts (.fieldLink RX1 28 "ScoreboardCore$Instruction" "i" "I") mm_X1_stores_f28) (fun _ h9 => h9) rfl dX1_stores_11 ?_
    refine lv_bipush (v := (6 : Int32)) hx hb dX1_stores_14 (by decide) ?_
    refine lv_icmp_lt (x := ii) (y := (6 : Int32)) (tgt := 23) hx hb dX1_stores_16 (by decide) (fun c2 => ?_) (fun c2 => ?_)
    · refine lv_iconst (v := (0 : Int32)) hx hb dX1_stores_23 (by decide) ?_
      have e9 : (F_X1_stores iop ii ) = (0 : Int32) := by rw [F_X1_stores, if_pos c1, if_pos c2]
      rw [e9] at hV
      subst hV
      exact roRetZ C0 rfl rfl dX1_stores_24
    · refine lv_iconst (v := (1 : Int32)) hx hb dX1_stores_19 (by decide) ?_
      refine lv_goto (tgt := 24) hx hb dX1_stores_20 (by decide) ?_
      have e9 : (F_X1_stores iop ii ) = (1 : Int32) := by rw [F_X1_stores, if_pos c1, if_neg c2]
      rw [e9] at hV
      subst hV
      exact roRetZ C0 rfl rfl dX1_stores_24
theorem c_X1_stores (l : Launch) (dC : Nat → ClassId) (dI : Nat → Nat → Nat) (cI cJ : ClassId) (hI hN hR : Nat) (iop : Int32) (ii : Int32) (ij : Int32) (ik : Int32) (ic : Int32) (ip : Int32) (iu : Int32) : RoI l yX1_stores wsX1_stores rm_X1_stores (dC, dI) [(cI, .int), (cJ, .long)] [(hI, .inr (1, [.int iop, .int ii, .int ij, .int ik, .int ic, .int ip, .int iu, .ref hN, .ref hR]))] [.ref hI] (F_X1_stores iop ii ) := by
  refine RoI.mk (cc := cX1_stores) (nL := 1) (ret := (some .boolean)) [(0, .ref hI)] (by decide) rfl (Nat.le_of_ble_eq_true rfl) rfl ?_
  intro p e s m below meth c C0 hP hK ls hl
  exact w_X1_stores dC dI cI cJ hI hN hR iop ii ij ik ic ip iu C0 hK hP rfl ls hl

-- X1_stopCode
def F_X1_stopCode_60 (iop : Int32) (ip : Int32) (v1 : Int32) (t0 : Int32) : Int32 :=
  (if v1 = 0 then (1 : Int32) else (if t0 = 0 then (if ip < (F_X1_parcels iop) then (1 : Int32) else (3 : Int32)) else (1 : Int32)))
def F_X1_stopCode_59 (iop : Int32) (ip : Int32) (v1 : Int32) : Int32 :=
  (F_X1_stopCode_60 iop ip v1 (0 : Int32))
def F_X1_stopCode_38 (iop : Int32) (ii : Int32) (ip : Int32) (t0 : Int32) : Int32 :=
  (if iop = (3 : Int32) then (if ii ≤ (3 : Int32) then (F_X1_stopCode_59 iop ip t0) else (F_X1_stopCode_60 iop ip t0 (1 : Int32))) else (F_X1_stopCode_59 iop ip t0))
def F_X1_stopCode_33 (iop : Int32) (ii : Int32) (ip : Int32) : Int32 :=
  (F_X1_stopCode_38 iop ii ip (1 : Int32))
def F_X1_stopCode (iop : Int32) (ii : Int32) (ip : Int32) (iu : Int32) : Int32 :=
  (if iop = 0 then (0 : Int32) else (if (F_X1_isJump iop) = 0 then (if iu = (-1 : Int32) then (if iop = (38 : Int32) then (F_X1_stopCode_33 iop ii ip ) else (F_X1_stopCode_38 iop ii ip (0 : Int32))) else (F_X1_stopCode_33 iop ii ip )) else (F_X1_stopCode_33 iop ii ip )))
abbrev rm_X1_stopCode : Room := { frames := 2, cells := 0, slots := 0, locals := 41 }
set_option maxRecDepth 20000 in
theorem mi_X1_stopCode_X1 : ∀ w ∈ wsX10, w ∈ wsX1_stopCode := by decide +kernel
set_option maxRecDepth 20000 in
theorem mm_X1_stopCode_f21 : Cond.fieldLink RX1 21 "ScoreboardCore$Instruction" "parcelsLeft" "I" ∈ wsX1_stopCode := by decide +kernel
set_option maxRecDepth 20000 in
theorem mm_X1_stopCode_f25 : Cond.fieldLink RX1 25 "ScoreboardCore$Instruction" "op" "I" ∈ wsX1_stopCode := by decide +kernel
set_option maxRecDepth 20000 in
theorem mm_X1_stopCode_f28 : Cond.fieldLink RX1 28 "ScoreboardCore$Instruction" "i" "I" ∈ wsX1_stopCode := by decide +kernel
set_option maxRecDepth 20000 in
theorem mm_X1_stopCode_f45 : Cond.fieldLink RX1 45 "ScoreboardCore$Instruction" "unit" "I" ∈ wsX1_stopCode := by decide +kernel
set_option maxRecDepth 20000 in
theorem mm_X1_stopCode_iX1 : Cond.initialized RX1 ∈ wsX1_stopCode := by decide +kernel
set_option maxRecDepth 20000 in
theorem mm_X1_stopCode_l57 : Cond.methodLink RX1 57 yX1_isJump ∈ wsX1_stopCode := by decide +kernel
set_option maxRecDepth 20000 in
theorem mm_X1_stopCode_l61 : Cond.methodLink RX1 61 yX1_parcels ∈ wsX1_stopCode := by decide +kernel
set_option maxRecDepth 20000 in
theorem mm_X1_stopCode_nX1_isJump : Cond.instanceMethod yX1_isJump ∈ wsX1_stopCode := by decide +kernel
set_option maxRecDepth 20000 in
theorem mm_X1_stopCode_nX1_parcels : Cond.instanceMethod yX1_parcels ∈ wsX1_stopCode := by decide +kernel
set_option maxRecDepth 20000 in
theorem mm_X1_stopCode_sX1_isJump : Cond.selects RX1 yX1_isJump yX1_isJump ∈ wsX1_stopCode := by decide +kernel
set_option maxRecDepth 20000 in
theorem mm_X1_stopCode_sX1_parcels : Cond.selects RX1 yX1_parcels yX1_parcels ∈ wsX1_stopCode := by decide +kernel
set_option maxHeartbeats 4000000 in
set_option maxRecDepth 100000 in
theorem j_X1_stopCode_60 {p : Program} {l : Launch} {e : Env} {s : State} {m : MethodId} {below : List Frame} {meth : Method} {c : Code} {args : Array Value} (dC : Nat → ClassId) (dI : Nat → Nat → Nat) (cI cJ : ClassId) (hI hN hR : Nat) (iop : Int32) (ii : Int32) (ij : Int32) (ik : Int32) (ic : Int32) (ip : Int32) (iu : Int32) (C0 : Cx p s m meth c cX1_stopCode 3 (some .int) wsX1_stopCode RX1 args) (hK : va_K (dC, dI) vwCl [(cI, .int), (cJ, .long)] s) (hP : va_P (dC, dI) vwCl [(hI, .inr (1, [.int iop, .int ii, .int ij, .int ik, .int ic, .int ip, .int iu, .ref hN, .ref hR]))] s.heap) (v1 : Int32) (t0 : Int32) {V : Int32} (hV : (F_X1_stopCode_60 iop ip v1 t0) = V) (ls : Array Slot) (hl : lv_has ls 3 [(0, .ref hI), (1, .int v1)]) : W p l e rm_X1_stopCode s m args below meth c s.heap [] 0 0 (MQ below (vp_Si (fun r => r = V)) args s 0 0 (fun _ => False)) (F0 m 60 ls [.int t0]) := by
  obtain ⟨hx, hb, hr, hlk, hml, hown, hts⟩ := id C0
  refine lv_istore_n (lv' := [(2, .int t0), (0, .ref hI), (1, .int v1)]) hx hb dX1_stopCode_60 rfl hl (by decide) rfl (fun ls hl => ?_)
  refine lv_iload_n hx hb dX1_stopCode_61 rfl (lv_at hl 2 rfl) ?_
  refine lv_if_eq (x := v1) (tgt := 84) hx hb dX1_stopCode_62 (by decide) (fun c1 => ?_) (fun c1 => ?_)
  · refine lv_iconst (v := (1 : Int32)) hx hb dX1_stopCode_84 (by decide) ?_
    have e9 : (F_X1_stopCode_60 iop ip v1 t0) = (1 : Int32) := by rw [F_X1_stopCode_60, if_pos c1]
    rw [e9] at hV
    subst hV
    exact roRetI C0 rfl dX1_stopCode_85
  · refine lv_iload_n hx hb dX1_stopCode_65 rfl (lv_at hl 0 rfl) ?_
    refine lv_if_ne (x := t0) (tgt := 84) hx hb dX1_stopCode_66 (by decide) (fun c2 => ?_) (fun c2 => ?_)
    · refine lv_iconst (v := (1 : Int32)) hx hb dX1_stopCode_84 (by decide) ?_
      have e9 : (F_X1_stopCode_60 iop ip v1 t0) = (1 : Int32) := by rw [F_X1_stopCode_60, if_neg c1, if_neg c2]
      rw [e9] at hV
      subst hV
      exact roRetI C0 rfl dX1_stopCode_85
    · refine lv_aload_n hx hb dX1_stopCode_69 rfl (lv_at hl 1 rfl) ?_
      refine roVi (As := []) (rest := []) (bytes := cX1_parcels) (maxL := 2) (rty := (some .int)) (n := 0) (ci := 1) C0 (c_X1_parcels l dC dI cI cJ hI hN hR iop ii ij ik ic ip iu) ⟨rfl, rfl, rfl, by decide +kernel, by decide, by decide⟩ ggX1_stopCode_X1_parcels mm_X1_stopCode_iX1 mm_X1_stopCode_l61 mm_X1_stopCode_nX1_parcels mm_X1_stopCode_sX1_parcels rfl rfl (hP.sub (ws' := [(hI, .inr (1, [.int iop, .int ii, .int ij, .int ik, .int ic, .int ip, .int iu, .ref hN, .ref hR]))]) [0] rfl) hK hl.1 rfl rfl (Nat.le_of_ble_eq_true rfl) dX1_stopCode_70 ⟨Nat.zero_le _, Nat.zero_le _⟩ ?_
      refine lv_aload_n hx hb dX1_stopCode_73 rfl (lv_at hl 1 rfl) ?_
      refine va_get (D := (dC, dI)) (ci := 1) (v := .int ip) (C := RX1) (T := TX1) (N := 9) hx hb hts mi_X1_stopCode_X1 hown hK hP 0 rfl rfl 5 (by decide) (hts (.fieldLink RX1 21 "ScoreboardCore$Instruction" "parcelsLeft" "I") mm_X1_stopCode_f21) (fun _ h9 => h9) rfl dX1_stopCode_74 ?_
      refine lv_icmp_gt (x := (F_X1_parcels iop)) (y := ip) (tgt := 84) hx hb dX1_stopCode_77 (by decide) (fun c3 => ?_) (fun c3 => ?_)
      · refine lv_iconst (v := (1 : Int32)) hx hb dX1_stopCode_84 (by decide) ?_
        have e9 : (F_X1_stopCode_60 iop ip v1 t0) = (1 : Int32) := by rw [F_X1_stopCode_60, if_neg c1, if_pos c2, if_pos c3]
        rw [e9] at hV
        subst hV
        exact roRetI C0 rfl dX1_stopCode_85
      · refine lv_iconst (v := (3 : Int32)) hx hb dX1_stopCode_80 (by decide) ?_
        refine lv_goto (tgt := 85) hx hb dX1_stopCode_81 (by decide) ?_
        have e9 : (F_X1_stopCode_60 iop ip v1 t0) = (3 : Int32) := by rw [F_X1_stopCode_60, if_neg c1, if_pos c2, if_neg c3]
        rw [e9] at hV
        subst hV
        exact roRetI C0 rfl dX1_stopCode_85
set_option maxHeartbeats 4000000 in
set_option maxRecDepth 100000 in
theorem j_X1_stopCode_59 {p : Program} {l : Launch} {e : Env} {s : State} {m : MethodId} {below : List Frame} {meth : Method} {c : Code} {args : Array Value} (dC : Nat → ClassId) (dI : Nat → Nat → Nat) (cI cJ : ClassId) (hI hN hR : Nat) (iop : Int32) (ii : Int32) (ij : Int32) (ik : Int32) (ic : Int32) (ip : Int32) (iu : Int32) (C0 : Cx p s m meth c cX1_stopCode 3 (some .int) wsX1_stopCode RX1 args) (hK : va_K (dC, dI) vwCl [(cI, .int), (cJ, .long)] s) (hP : va_P (dC, dI) vwCl [(hI, .inr (1, [.int iop, .int ii, .int ij, .int ik, .int ic, .int ip, .int iu, .ref hN, .ref hR]))] s.heap) (v1 : Int32) {V : Int32} (hV : (F_X1_stopCode_59 iop ip v1) = V) (ls : Array Slot) (hl : lv_has ls 3 [(0, .ref hI), (1, .int v1)]) : W p l e rm_X1_stopCode s m args below meth c s.heap [] 0 0 (MQ below (vp_Si (fun r => r = V)) args s 0 0 (fun _ => False)) (F0 m 59 ls []) := by
  obtain ⟨hx, hb, hr, hlk, hml, hown, hts⟩ := id C0
  refine lv_iconst (v := (0 : Int32)) hx hb dX1_stopCode_59 (by decide) ?_
  have e9 : (F_X1_stopCode_59 iop ip v1) = (F_X1_stopCode_60 iop ip v1 (0 : Int32)) := by rw [F_X1_stopCode_59]
  rw [e9] at hV
  exact j_X1_stopCode_60 dC dI cI cJ hI hN hR iop ii ij ik ic ip iu C0 hK hP v1 (0 : Int32) hV ls (lv_sub hl [0, 1] rfl)
set_option maxHeartbeats 4000000 in
set_option maxRecDepth 100000 in
theorem j_X1_stopCode_38 {p : Program} {l : Launch} {e : Env} {s : State} {m : MethodId} {below : List Frame} {meth : Method} {c : Code} {args : Array Value} (dC : Nat → ClassId) (dI : Nat → Nat → Nat) (cI cJ : ClassId) (hI hN hR : Nat) (iop : Int32) (ii : Int32) (ij : Int32) (ik : Int32) (ic : Int32) (ip : Int32) (iu : Int32) (C0 : Cx p s m meth c cX1_stopCode 3 (some .int) wsX1_stopCode RX1 args) (hK : va_K (dC, dI) vwCl [(cI, .int), (cJ, .long)] s) (hP : va_P (dC, dI) vwCl [(hI, .inr (1, [.int iop, .int ii, .int ij, .int ik, .int ic, .int ip, .int iu, .ref hN, .ref hR]))] s.heap) (t0 : Int32) {V : Int32} (hV : (F_X1_stopCode_38 iop ii ip t0) = V) (ls : Array Slot) (hl : lv_has ls 3 [(0, .ref hI)]) : W p l e rm_X1_stopCode s m args below meth c s.heap [] 0 0 (MQ below (vp_Si (fun r => r = V)) args s 0 0 (fun _ => False)) (F0 m 38 ls [.int t0]) := by
  obtain ⟨hx, hb, hr, hlk, hml, hown, hts⟩ := id C0
  refine lv_istore_n (lv' := [(1, .int t0), (0, .ref hI)]) hx hb dX1_stopCode_38 rfl hl (by decide) rfl (fun ls hl => ?_)
  refine lv_aload_n hx hb dX1_stopCode_39 rfl (lv_at hl 1 rfl) ?_
  refine va_get (D := (dC, dI)) (ci := 1) (v := .int iop) (C := RX1) (T := TX1) (N := 9) hx hb hts mi_X1_stopCode_X1 hown hK hP 0 rfl rfl 0 (by decide) (hts (.fieldLink RX1 25 "ScoreboardCore$Instruction" "op" "I") mm_X1_stopCode_f25) (fun _ h9 => h9) rfl dX1_stopCode_40 ?_
  refine lv_iconst (v := (3 : Int32)) hx hb dX1_stopCode_43 (by decide) ?_
  refine lv_icmp_ne (x := iop) (y := (3 : Int32)) (tgt := 59) hx hb dX1_stopCode_44 (by decide) (fun c1 => ?_) (fun c1 => ?_)
  · have e9 : (F_X1_stopCode_38 iop ii ip t0) = (F_X1_stopCode_59 iop ip t0) := by rw [F_X1_stopCode_38, if_neg c1]
    rw [e9] at hV
    exact j_X1_stopCode_59 dC dI cI cJ hI hN hR iop ii ij ik ic ip iu C0 hK hP t0 hV ls (lv_sub hl [1, 0] rfl)
  · refine lv_aload_n hx hb dX1_stopCode_47 rfl (lv_at hl 1 rfl) ?_
    refine va_get (D := (dC, dI)) (ci := 1) (v := .int ii) (C := RX1) (T := TX1) (N := 9) hx hb hts mi_X1_stopCode_X1 hown hK hP 0 rfl rfl 1 (by decide) (hts (.fieldLink RX1 28 "ScoreboardCore$Instruction" "i" "I") mm_X1_stopCode_f28) (fun _ h9 => h9) rfl dX1_stopCode_48 ?_
    refine lv_iconst (v := (3 : Int32)) hx hb dX1_stopCode_51 (by decide) ?_
    refine lv_icmp_le (x := ii) (y := (3 : Int32)) (tgt := 59) hx hb dX1_stopCode_52 (by decide) (fun c2 => ?_) (fun c2 => ?_)
    · have e9 : (F_X1_stopCode_38 iop ii ip t0) = (F_X1_stopCode_59 iop ip t0) := by rw [F_X1_stopCode_38, if_pos c1, if_pos c2]
      rw [e9] at hV
      exact j_X1_stopCode_59 dC dI cI cJ hI hN hR iop ii ij ik ic ip iu C0 hK hP t0 hV ls (lv_sub hl [1, 0] rfl)
    · refine lv_iconst (v := (1 : Int32)) hx hb dX1_stopCode_55 (by decide) ?_
      refine lv_goto (tgt := 60) hx hb dX1_stopCode_56 (by decide) ?_
      have e9 : (F_X1_stopCode_38 iop ii ip t0) = (F_X1_stopCode_60 iop ip t0 (1 : Int32)) := by rw [F_X1_stopCode_38, if_pos c1, if_neg c2]
      rw [e9] at hV
      exact j_X1_stopCode_60 dC dI cI cJ hI hN hR iop ii ij ik ic ip iu C0 hK hP t0 (1 : Int32) hV ls (lv_sub hl [1, 0] rfl)
set_option maxHeartbeats 4000000 in
set_option maxRecDepth 100000 in
theorem j_X1_stopCode_33 {p : Program} {l : Launch} {e : Env} {s : State} {m : MethodId} {below : List Frame} {meth : Method} {c : Code} {args : Array Value} (dC : Nat → ClassId) (dI : Nat → Nat → Nat) (cI cJ : ClassId) (hI hN hR : Nat) (iop : Int32) (ii : Int32) (ij : Int32) (ik : Int32) (ic : Int32) (ip : Int32) (iu : Int32) (C0 : Cx p s m meth c cX1_stopCode 3 (some .int) wsX1_stopCode RX1 args) (hK : va_K (dC, dI) vwCl [(cI, .int), (cJ, .long)] s) (hP : va_P (dC, dI) vwCl [(hI, .inr (1, [.int iop, .int ii, .int ij, .int ik, .int ic, .int ip, .int iu, .ref hN, .ref hR]))] s.heap) {V : Int32} (hV : (F_X1_stopCode_33 iop ii ip ) = V) (ls : Array Slot) (hl : lv_has ls 3 [(0, .ref hI)]) : W p l e rm_X1_stopCode s m args below meth c s.heap [] 0 0 (MQ below (vp_Si (fun r => r = V)) args s 0 0 (fun _ => False)) (F0 m 33 ls []) := by
  obtain ⟨hx, hb, hr, hlk, hml, hown, hts⟩ := id C0
  refine lv_iconst (v := (1 : Int32)) hx hb dX1_stopCode_33 (by decide) ?_
  refine lv_goto (tgt := 38) hx hb dX1_stopCode_34 (by decide) ?_
  have e9 : (F_X1_stopCode_33 iop ii ip ) = (F_X1_stopCode_38 iop ii ip (1 : Int32)) := by rw [F_X1_stopCode_33]
  rw [e9] at hV
  exact j_X1_stopCode_38 dC dI cI cJ hI hN hR iop ii ij ik ic ip iu C0 hK hP (1 : Int32) hV ls (lv_sub hl [0] rfl)
set_option maxHeartbeats 4000000 in
set_option maxRecDepth 100000 in
theorem w_X1_stopCode {p : Program} {l : Launch} {e : Env} {s : State} {m : MethodId} {below : List Frame} {meth : Method} {c : Code} {args : Array Value} (dC : Nat → ClassId) (dI : Nat → Nat → Nat) (cI cJ : ClassId) (hI hN hR : Nat) (iop : Int32) (ii : Int32) (ij : Int32) (ik : Int32) (ic : Int32) (ip : Int32) (iu : Int32) (C0 : Cx p s m meth c cX1_stopCode 3 (some .int) wsX1_stopCode RX1 args) (hK : va_K (dC, dI) vwCl [(cI, .int), (cJ, .long)] s) (hP : va_P (dC, dI) vwCl [(hI, .inr (1, [.int iop, .int ii, .int ij, .int ik, .int ic, .int ip, .int iu, .ref hN, .ref hR]))] s.heap) {V : Int32} (hV : (F_X1_stopCode iop ii ip iu ) = V) (ls : Array Slot) (hl : lv_has ls 3 [(0, .ref hI)]) : W p l e rm_X1_stopCode s m args below meth c s.heap [] 0 0 (MQ below (vp_Si (fun r => r = V)) args s 0 0 (fun _ => False)) (F0 m 0 ls []) := by
  obtain ⟨hx, hb, hr, hlk, hml, hown, hts⟩ := id C0
  refine lv_aload_n hx hb dX1_stopCode_0 rfl (lv_at hl 0 rfl) ?_
  refine va_get (D := (dC, dI)) (ci := 1) (v := .int iop) (C := RX1) (T := TX1) (N := 9) hx hb hts mi_X1_stopCode_X1 hown hK hP 0 rfl rfl 0 (by decide) (hts (.fieldLink RX1 25 "ScoreboardCore$Instruction" "op" "I") mm_X1_stopCode_f25) (fun _ h9 => h9) rfl dX1_stopCode_1 ?_
  refine lv_if_ne (x := iop) (tgt := 9) hx hb dX1_stopCode_4 (by decide) (fun c1 => ?_) (fun c1 => ?_)
  · refine lv_aload_n hx hb dX1_stopCode_9 rfl (lv_at hl 0 rfl) ?_
    refine roVi (As := []) (rest := []) (bytes := cX1_isJump) (maxL := 1) (rty := (some .boolean)) (n := 0) (ci := 1) C0 (c_X1_isJump l dC dI cI cJ hI hN hR iop ii ij ik ic ip iu) ⟨rfl, rfl, rfl, by decide +kernel, by decide, by decide⟩ ggX1_stopCode_X1_isJump mm_X1_stopCode_iX1 mm_X1_stopCode_l57 mm_X1_stopCode_nX1_isJump mm_X1_stopCode_sX1_isJump rfl rfl (hP.sub (ws' := [(hI, .inr (1, [.int iop, .int ii, .int ij, .int ik, .int ic, .int ip, .int iu, .ref hN, .ref hR]))]) [0] rfl) hK hl.1 rfl rfl (Nat.le_of_ble_eq_true rfl) dX1_stopCode_10 ⟨Nat.zero_le _, Nat.zero_le _⟩ ?_
    refine lv_if_ne (x := (F_X1_isJump iop)) (tgt := 33) hx hb dX1_stopCode_13 (by decide) (fun c2 => ?_) (fun c2 => ?_)
    · have e9 : (F_X1_stopCode iop ii ip iu ) = (F_X1_stopCode_33 iop ii ip ) := by rw [F_X1_stopCode, if_neg c1, if_neg c2]
      rw [e9] at hV
      exact j_X1_stopCode_33 dC dI cI cJ hI hN hR iop ii ij ik ic ip iu C0 hK hP  hV ls (lv_sub hl [0] rfl)
    · refine lv_aload_n hx hb dX1_stopCode_16 rfl (lv_at hl 0 rfl) ?_
      refine va_get (D := (dC, dI)) (ci := 1) (v := .int iu) (C := RX1) (T := TX1) (N := 9) hx hb hts mi_X1_stopCode_X1 hown hK hP 0 rfl rfl 6 (by decide) (hts (.fieldLink RX1 45 "ScoreboardCore$Instruction" "unit" "I") mm_X1_stopCode_f45) (fun _ h9 => h9) rfl dX1_stopCode_17 ?_
      refine lv_iconst (v := (-1 : Int32)) hx hb dX1_stopCode_20 (by decide) ?_
      refine lv_icmp_ne (x := iu) (y := (-1 : Int32)) (tgt := 33) hx hb dX1_stopCode_21 (by decide) (fun c3 => ?_) (fun c3 => ?_)
      · have e9 : (F_X1_stopCode iop ii ip iu ) = (F_X1_stopCode_33 iop ii ip ) := by rw [F_X1_stopCode, if_neg c1, if_pos c2, if_neg c3]
        rw [e9] at hV
        exact j_X1_stopCode_33 dC dI cI cJ hI hN hR iop ii ij ik ic ip iu C0 hK hP  hV ls (lv_sub hl [0] rfl)
      · refine lv_aload_n hx hb dX1_stopCode_24 rfl (lv_at hl 0 rfl) ?_
        refine va_get (D := (dC, dI)) (ci := 1) (v := .int iop) (C := RX1) (T := TX1) (N := 9) hx hb hts mi_X1_stopCode_X1 hown hK hP 0 rfl rfl 0 (by decide) (hts (.fieldLink RX1 25 "ScoreboardCore$Instruction" "op" "I") mm_X1_stopCode_f25) (fun _ h9 => h9) rfl dX1_stopCode_25 ?_
        refine lv_bipush (v := (38 : Int32)) hx hb dX1_stopCode_28 (by decide) ?_
        refine lv_icmp_ne (x := iop) (y := (38 : Int32)) (tgt := 37) hx hb dX1_stopCode_30 (by decide) (fun c4 => ?_) (fun c4 => ?_)
        · refine lv_iconst (v := (0 : Int32)) hx hb dX1_stopCode_37 (by decide) ?_
          have e9 : (F_X1_stopCode iop ii ip iu ) = (F_X1_stopCode_38 iop ii ip (0 : Int32)) := by rw [F_X1_stopCode, if_neg c1, if_pos c2, if_pos c3, if_neg c4]
          rw [e9] at hV
          exact j_X1_stopCode_38 dC dI cI cJ hI hN hR iop ii ij ik ic ip iu C0 hK hP (0 : Int32) hV ls (lv_sub hl [0] rfl)
        · have e9 : (F_X1_stopCode iop ii ip iu ) = (F_X1_stopCode_33 iop ii ip ) := by rw [F_X1_stopCode, if_neg c1, if_pos c2, if_pos c3, if_pos c4]
          rw [e9] at hV
          exact j_X1_stopCode_33 dC dI cI cJ hI hN hR iop ii ij ik ic ip iu C0 hK hP  hV ls (lv_sub hl [0] rfl)
  · refine lv_iconst (v := (0 : Int32)) hx hb dX1_stopCode_7 (by decide) ?_
    have e9 : (F_X1_stopCode iop ii ip iu ) = (0 : Int32) := by rw [F_X1_stopCode, if_pos c1]
    rw [e9] at hV
    subst hV
    exact roRetI C0 rfl dX1_stopCode_8
theorem c_X1_stopCode (l : Launch) (dC : Nat → ClassId) (dI : Nat → Nat → Nat) (cI cJ : ClassId) (hI hN hR : Nat) (iop : Int32) (ii : Int32) (ij : Int32) (ik : Int32) (ic : Int32) (ip : Int32) (iu : Int32) : RoI l yX1_stopCode wsX1_stopCode rm_X1_stopCode (dC, dI) [(cI, .int), (cJ, .long)] [(hI, .inr (1, [.int iop, .int ii, .int ij, .int ik, .int ic, .int ip, .int iu, .ref hN, .ref hR]))] [.ref hI] (F_X1_stopCode iop ii ip iu ) := by
  refine RoI.mk (cc := cX1_stopCode) (nL := 3) (ret := (some .int)) [(0, .ref hI)] (by decide) rfl (Nat.le_of_ble_eq_true rfl) rfl ?_
  intro p e s m below meth c C0 hP hK ls hl
  exact w_X1_stopCode dC dI cI cJ hI hN hR iop ii ij ik ic ip iu C0 hK hP rfl ls hl

-- X1_unitOf
def F_X1_unitOf_34 (v0 : Int32) : Int32 :=
  (if v0 = (35 : Int32) then (1 : Int32) else (if v0 = (30 : Int32) then (2 : Int32) else (if v0 = (31 : Int32) then (2 : Int32) else (if v0 = (39 : Int32) then (3 : Int32) else (-1 : Int32)))))
def F_X1_unitOf_22 (v0 : Int32) : Int32 :=
  (if v0 < (16 : Int32) then (F_X1_unitOf_34 v0) else (if v0 ≤ (19 : Int32) then (1 : Int32) else (F_X1_unitOf_34 v0)))
def F_X1_unitOf (o : Int32) : Int32 :=
  (if o < (40 : Int32) then (if o < (8 : Int32) then (F_X1_unitOf_22 o) else (if (15 : Int32) < o then (F_X1_unitOf_22 o) else (0 : Int32))) else (4 : Int32))
abbrev rm_X1_unitOf : Room := { frames := 0, cells := 0, slots := 0, locals := 0 }
set_option maxHeartbeats 4000000 in
set_option maxRecDepth 100000 in
theorem j_X1_unitOf_34 {p : Program} {l : Launch} {e : Env} {s : State} {m : MethodId} {below : List Frame} {meth : Method} {c : Code} {args : Array Value} (dC : Nat → ClassId) (dI : Nat → Nat → Nat) (cI cJ : ClassId) (o : Int32) (C0 : Cx p s m meth c cX1_unitOf 1 (some .int) wsX1_unitOf RX1 args) (hK : va_K (dC, dI) vwCl [(cI, .int), (cJ, .long)] s) (hP : va_P (dC, dI) vwCl [] s.heap) (v0 : Int32) {V : Int32} (hV : (F_X1_unitOf_34 v0) = V) (ls : Array Slot) (hl : lv_has ls 1 [(0, .int v0)]) : W p l e rm_X1_unitOf s m args below meth c s.heap [] 0 0 (MQ below (vp_Si (fun r => r = V)) args s 0 0 (fun _ => False)) (F0 m 34 ls []) := by
  obtain ⟨hx, hb, hr, hlk, hml, hown, hts⟩ := id C0
  refine lv_iload_n hx hb dX1_unitOf_34 rfl (lv_at hl 0 rfl) ?_
  refine lv_bipush (v := (35 : Int32)) hx hb dX1_unitOf_35 (by decide) ?_
  refine lv_icmp_ne (x := v0) (y := (35 : Int32)) (tgt := 42) hx hb dX1_unitOf_37 (by decide) (fun c1 => ?_) (fun c1 => ?_)
  · refine lv_iload_n hx hb dX1_unitOf_42 rfl (lv_at hl 0 rfl) ?_
    refine lv_bipush (v := (30 : Int32)) hx hb dX1_unitOf_43 (by decide) ?_
    refine lv_icmp_eq (x := v0) (y := (30 : Int32)) (tgt := 54) hx hb dX1_unitOf_45 (by decide) (fun c2 => ?_) (fun c2 => ?_)
    · refine lv_iconst (v := (2 : Int32)) hx hb dX1_unitOf_54 (by decide) ?_
      have e9 : (F_X1_unitOf_34 v0) = (2 : Int32) := by rw [F_X1_unitOf_34, if_neg c1, if_pos c2]
      rw [e9] at hV
      subst hV
      exact roRetI C0 rfl dX1_unitOf_55
    · refine lv_iload_n hx hb dX1_unitOf_48 rfl (lv_at hl 0 rfl) ?_
      refine lv_bipush (v := (31 : Int32)) hx hb dX1_unitOf_49 (by decide) ?_
      refine lv_icmp_ne (x := v0) (y := (31 : Int32)) (tgt := 56) hx hb dX1_unitOf_51 (by decide) (fun c3 => ?_) (fun c3 => ?_)
      · refine lv_iload_n hx hb dX1_unitOf_56 rfl (lv_at hl 0 rfl) ?_
        refine lv_bipush (v := (39 : Int32)) hx hb dX1_unitOf_57 (by decide) ?_
        refine lv_icmp_ne (x := v0) (y := (39 : Int32)) (tgt := 66) hx hb dX1_unitOf_59 (by decide) (fun c4 => ?_) (fun c4 => ?_)
        · refine lv_iconst (v := (-1 : Int32)) hx hb dX1_unitOf_66 (by decide) ?_
          have e9 : (F_X1_unitOf_34 v0) = (-1 : Int32) := by rw [F_X1_unitOf_34, if_neg c1, if_neg c2, if_neg c3, if_neg c4]
          rw [e9] at hV
          subst hV
          exact roRetI C0 rfl dX1_unitOf_67
        · refine lv_iconst (v := (3 : Int32)) hx hb dX1_unitOf_62 (by decide) ?_
          refine lv_goto (tgt := 67) hx hb dX1_unitOf_63 (by decide) ?_
          have e9 : (F_X1_unitOf_34 v0) = (3 : Int32) := by rw [F_X1_unitOf_34, if_neg c1, if_neg c2, if_neg c3, if_pos c4]
          rw [e9] at hV
          subst hV
          exact roRetI C0 rfl dX1_unitOf_67
      · refine lv_iconst (v := (2 : Int32)) hx hb dX1_unitOf_54 (by decide) ?_
        have e9 : (F_X1_unitOf_34 v0) = (2 : Int32) := by rw [F_X1_unitOf_34, if_neg c1, if_neg c2, if_pos c3]
        rw [e9] at hV
        subst hV
        exact roRetI C0 rfl dX1_unitOf_55
  · refine lv_iconst (v := (1 : Int32)) hx hb dX1_unitOf_40 (by decide) ?_
    have e9 : (F_X1_unitOf_34 v0) = (1 : Int32) := by rw [F_X1_unitOf_34, if_pos c1]
    rw [e9] at hV
    subst hV
    exact roRetI C0 rfl dX1_unitOf_41
set_option maxHeartbeats 4000000 in
set_option maxRecDepth 100000 in
theorem j_X1_unitOf_22 {p : Program} {l : Launch} {e : Env} {s : State} {m : MethodId} {below : List Frame} {meth : Method} {c : Code} {args : Array Value} (dC : Nat → ClassId) (dI : Nat → Nat → Nat) (cI cJ : ClassId) (o : Int32) (C0 : Cx p s m meth c cX1_unitOf 1 (some .int) wsX1_unitOf RX1 args) (hK : va_K (dC, dI) vwCl [(cI, .int), (cJ, .long)] s) (hP : va_P (dC, dI) vwCl [] s.heap) (v0 : Int32) {V : Int32} (hV : (F_X1_unitOf_22 v0) = V) (ls : Array Slot) (hl : lv_has ls 1 [(0, .int v0)]) : W p l e rm_X1_unitOf s m args below meth c s.heap [] 0 0 (MQ below (vp_Si (fun r => r = V)) args s 0 0 (fun _ => False)) (F0 m 22 ls []) := by
  obtain ⟨hx, hb, hr, hlk, hml, hown, hts⟩ := id C0
  refine lv_iload_n hx hb dX1_unitOf_22 rfl (lv_at hl 0 rfl) ?_
  refine lv_bipush (v := (16 : Int32)) hx hb dX1_unitOf_23 (by decide) ?_
  refine lv_icmp_lt (x := v0) (y := (16 : Int32)) (tgt := 34) hx hb dX1_unitOf_25 (by decide) (fun c1 => ?_) (fun c1 => ?_)
  · have e9 : (F_X1_unitOf_22 v0) = (F_X1_unitOf_34 v0) := by rw [F_X1_unitOf_22, if_pos c1]
    rw [e9] at hV
    exact j_X1_unitOf_34 dC dI cI cJ o C0 hK hP v0 hV ls (lv_sub hl [0] rfl)
  · refine lv_iload_n hx hb dX1_unitOf_28 rfl (lv_at hl 0 rfl) ?_
    refine lv_bipush (v := (19 : Int32)) hx hb dX1_unitOf_29 (by decide) ?_
    refine lv_icmp_le (x := v0) (y := (19 : Int32)) (tgt := 40) hx hb dX1_unitOf_31 (by decide) (fun c2 => ?_) (fun c2 => ?_)
    · refine lv_iconst (v := (1 : Int32)) hx hb dX1_unitOf_40 (by decide) ?_
      have e9 : (F_X1_unitOf_22 v0) = (1 : Int32) := by rw [F_X1_unitOf_22, if_neg c1, if_pos c2]
      rw [e9] at hV
      subst hV
      exact roRetI C0 rfl dX1_unitOf_41
    · have e9 : (F_X1_unitOf_22 v0) = (F_X1_unitOf_34 v0) := by rw [F_X1_unitOf_22, if_neg c1, if_neg c2]
      rw [e9] at hV
      exact j_X1_unitOf_34 dC dI cI cJ o C0 hK hP v0 hV ls (lv_sub hl [0] rfl)
set_option maxHeartbeats 4000000 in
set_option maxRecDepth 100000 in
theorem w_X1_unitOf {p : Program} {l : Launch} {e : Env} {s : State} {m : MethodId} {below : List Frame} {meth : Method} {c : Code} {args : Array Value} (dC : Nat → ClassId) (dI : Nat → Nat → Nat) (cI cJ : ClassId) (o : Int32) (C0 : Cx p s m meth c cX1_unitOf 1 (some .int) wsX1_unitOf RX1 args) (hK : va_K (dC, dI) vwCl [(cI, .int), (cJ, .long)] s) (hP : va_P (dC, dI) vwCl [] s.heap) {V : Int32} (hV : (F_X1_unitOf o ) = V) (ls : Array Slot) (hl : lv_has ls 1 [(0, .int o)]) : W p l e rm_X1_unitOf s m args below meth c s.heap [] 0 0 (MQ below (vp_Si (fun r => r = V)) args s 0 0 (fun _ => False)) (F0 m 0 ls []) := by
  obtain ⟨hx, hb, hr, hlk, hml, hown, hts⟩ := id C0
  refine lv_iload_n hx hb dX1_unitOf_0 rfl (lv_at hl 0 rfl) ?_
  refine lv_bipush (v := (40 : Int32)) hx hb dX1_unitOf_1 (by decide) ?_
  refine lv_icmp_lt (x := o) (y := (40 : Int32)) (tgt := 8) hx hb dX1_unitOf_3 (by decide) (fun c1 => ?_) (fun c1 => ?_)
  · refine lv_iload_n hx hb dX1_unitOf_8 rfl (lv_at hl 0 rfl) ?_
    refine lv_bipush (v := (8 : Int32)) hx hb dX1_unitOf_9 (by decide) ?_
    refine lv_icmp_lt (x := o) (y := (8 : Int32)) (tgt := 22) hx hb dX1_unitOf_11 (by decide) (fun c2 => ?_) (fun c2 => ?_)
    · have e9 : (F_X1_unitOf o ) = (F_X1_unitOf_22 o) := by rw [F_X1_unitOf, if_pos c1, if_pos c2]
      rw [e9] at hV
      exact j_X1_unitOf_22 dC dI cI cJ o C0 hK hP o hV ls (lv_sub hl [0] rfl)
    · refine lv_iload_n hx hb dX1_unitOf_14 rfl (lv_at hl 0 rfl) ?_
      refine lv_bipush (v := (15 : Int32)) hx hb dX1_unitOf_15 (by decide) ?_
      refine lv_icmp_gt (x := o) (y := (15 : Int32)) (tgt := 22) hx hb dX1_unitOf_17 (by decide) (fun c3 => ?_) (fun c3 => ?_)
      · have e9 : (F_X1_unitOf o ) = (F_X1_unitOf_22 o) := by rw [F_X1_unitOf, if_pos c1, if_neg c2, if_pos c3]
        rw [e9] at hV
        exact j_X1_unitOf_22 dC dI cI cJ o C0 hK hP o hV ls (lv_sub hl [0] rfl)
      · refine lv_iconst (v := (0 : Int32)) hx hb dX1_unitOf_20 (by decide) ?_
        have e9 : (F_X1_unitOf o ) = (0 : Int32) := by rw [F_X1_unitOf, if_pos c1, if_neg c2, if_neg c3]
        rw [e9] at hV
        subst hV
        exact roRetI C0 rfl dX1_unitOf_21
  · refine lv_iconst (v := (4 : Int32)) hx hb dX1_unitOf_6 (by decide) ?_
    have e9 : (F_X1_unitOf o ) = (4 : Int32) := by rw [F_X1_unitOf, if_neg c1]
    rw [e9] at hV
    subst hV
    exact roRetI C0 rfl dX1_unitOf_7
theorem c_X1_unitOf (l : Launch) (dC : Nat → ClassId) (dI : Nat → Nat → Nat) (cI cJ : ClassId) (o : Int32) : RoI l yX1_unitOf wsX1_unitOf rm_X1_unitOf (dC, dI) [(cI, .int), (cJ, .long)] [] [.int o] (F_X1_unitOf o ) := by
  refine RoI.mk (cc := cX1_unitOf) (nL := 1) (ret := (some .int)) [(0, .int o)] (by decide) rfl (Nat.le_of_ble_eq_true rfl) rfl ?_
  intro p e s m below meth c C0 hP hK ls hl
  exact w_X1_unitOf dC dI cI cJ o C0 hK hP rfl ls hl
