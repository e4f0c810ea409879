-- X3_holds
def F_X3_holds (a : Int32) : Int32 :=
  (if a < 0 then (0 : Int32) else (if (512 : Int32) ≤ a then (0 : Int32) else (1 : Int32)))
abbrev rm_X3_holds : Room := { frames := 0, cells := 0, slots := 0, locals := 0 }
set_option maxHeartbeats 4000000 in
set_option maxRecDepth 100000 in
theorem w_X3_holds {p : Program} {l : Launch} {e : Env} {s : State} {m : MethodId} {below : List Frame} {meth : Method} {c : Code} {args : Array Value} (dC : Nat → ClassId) (dI : Nat → Nat → Nat) (cI cJ : ClassId) (a : Int32) (C0 : Cx p s m meth c cX3_holds 1 (some .boolean) wsX3_holds RX3 args) (hK : va_K (dC, dI) vwCl [(cI, .int), (cJ, .long)] s) (hP : va_P (dC, dI) vwCl [] s.heap) {V : Int32} (hV : (F_X3_holds a ) = V) (ls : Array Slot) (hl : lv_has ls 1 [(0, .int a)]) : W p l e rm_X3_holds s m args below meth c s.heap [] 0 0 (MQ below (vp_Si (fun r => r = V)) args s 0 0 (fun _ => False)) (F0 m 0 ls []) := by
  obtain ⟨hx, hb, hr, hlk, hml, hown, hts⟩ := id C0
  refine lv_iload_n hx hb dX3_holds_0 rfl (lv_at hl 0 rfl) ?_
  refine lv_if_lt (x := a) (tgt := 15) hx hb dX3_holds_1 (by decide) (fun c1 => ?_) (fun c1 => ?_)
  · refine lv_iconst (v := (0 : Int32)) hx hb dX3_holds_15 (by decide) ?_
    have e9 : (F_X3_holds a ) = (0 : Int32) := by rw [F_X3_holds, if_pos c1]
    rw [e9] at hV
    subst hV
    exact roRetZ C0 rfl rfl dX3_holds_16
  · refine lv_iload_n hx hb dX3_holds_4 rfl (lv_at hl 0 rfl) ?_
    refine lv_sipush (v := (512 : Int32)) hx hb dX3_holds_5 (by decide) ?_
    refine lv_icmp_ge (x := a) (y := (512 : Int32)) (tgt := 15) hx hb dX3_holds_8 (by decide) (fun c2 => ?_) (fun c2 => ?_)
    · refine lv_iconst (v := (0 : Int32)) hx hb dX3_holds_15 (by decide) ?_
      have e9 : (F_X3_holds a ) = (0 : Int32) := by rw [F_X3_holds, if_neg c1, if_pos c2]
      rw [e9] at hV
      subst hV
      exact roRetZ C0 rfl rfl dX3_holds_16
    · refine lv_iconst (v := (1 : Int32)) hx hb dX3_holds_11 (by decide) ?_
      refine lv_goto (tgt := 16) hx hb dX3_holds_12 (by decide) ?_
      have e9 : (F_X3_holds a ) = (1 : Int32) := by rw [F_X3_holds, if_neg c1, if_neg c2]
      rw [e9] at hV
      subst hV
      exact roRetZ C0 rfl rfl dX3_holds_16
theorem c_X3_holds (l : Launch) (dC : Nat → ClassId) (dI : Nat → Nat → Nat) (cI cJ : ClassId) (a : Int32) : RoI l yX3_holds wsX3_holds rm_X3_holds (dC, dI) [(cI, .int), (cJ, .long)] [] [.int a] (F_X3_holds a ) := by
  refine RoI.mk (cc := cX3_holds) (nL := 1) (ret := (some .boolean)) [(0, .int a)] (by decide) rfl (Nat.le_of_ble_eq_true rfl) rfl ?_
  intro p e s m below meth c C0 hP hK ls hl
  exact w_X3_holds dC dI cI cJ a C0 hK hP rfl ls hl

theorem holds_in {a : Int32} (h : ¬ F_X3_holds a = 0) : vp_in a 512 := by
  unfold F_X3_holds at h
  split at h
  · exact absurd rfl h
  · split at h
    · exact absurd rfl h
    · rename_i h1 h2
      rw [vp_in_iff]
      rw [Int32.lt_iff_toInt_lt] at h1
      rw [Int32.le_iff_toInt_le] at h2
      have e1 : (0 : Int32).toInt = 0 := rfl
      have e2 : (512 : Int32).toInt = 512 := rfl
      omega

-- X3_load
def F_X3_load (a : Int32) (mw : Nat → Int64) : Int64 :=
  (if (F_X3_holds a) = 0 then (0 : Int64) else (mw a.toNatClampNeg))
abbrev rm_X3_load : Room := { frames := 1, cells := 0, slots := 0, locals := 20 }
set_option maxRecDepth 20000 in
theorem mi_X3_load_X3 : ∀ w ∈ wsX30, w ∈ wsX3_load := by decide +kernel
set_option maxRecDepth 20000 in
theorem mm_X3_load_f9 : Cond.fieldLink RX3 9 "ScoreboardCore$Memory" "words" "[J" ∈ wsX3_load := by decide +kernel
set_option maxRecDepth 20000 in
theorem mm_X3_load_iX3 : Cond.initialized RX3 ∈ wsX3_load := by decide +kernel
set_option maxRecDepth 20000 in
theorem mm_X3_load_l18 : Cond.methodLink RX3 18 yX3_holds ∈ wsX3_load := by decide +kernel
set_option maxRecDepth 20000 in
theorem mm_X3_load_tX3_holds : Cond.static yX3_holds ∈ wsX3_load := by decide +kernel
set_option maxHeartbeats 4000000 in
set_option maxRecDepth 100000 in
theorem w_X3_load {p : Program} {l : Launch} {e : Env} {s : State} {m : MethodId} {below : List Frame} {meth : Method} {c : Code} {args : Array Value} (dC : Nat → ClassId) (dI : Nat → Nat → Nat) (cI cJ : ClassId) (hM m1 m2 : Nat) (a : Int32) (mw : Nat → Int64) (C0 : Cx p s m meth c cX3_load 2 (some .long) wsX3_load RX3 args) (hK : va_K (dC, dI) vwCl [(cI, .int), (cJ, .long)] s) (hP : va_P (dC, dI) vwCl [(hM, .inr (2, [.ref m1, .ref m2])), (m1, .inl (cJ, 512, .inr (.inl mw)))] s.heap) {V : Int64} (hV : (F_X3_load a mw ) = V) (ls : Array Slot) (hl : lv_has ls 2 [(0, .ref hM), (1, .int a)]) : W p l e rm_X3_load s m args below meth c s.heap [] 0 0 (MQ below (vp_Sl (fun r => r = V)) args s 0 0 (fun _ => False)) (F0 m 0 ls []) := by
  obtain ⟨hx, hb, hr, hlk, hml, hown, hts⟩ := id C0
  refine lv_iload_n hx hb dX3_load_0 rfl (lv_at hl 1 rfl) ?_
  refine roSi (As := [.int a]) (rest := []) (bytes := cX3_holds) (maxL := 1) (rty := (some .boolean)) (n := 1) C0 (c_X3_holds l dC dI cI cJ a) ⟨rfl, rfl, rfl, by decide +kernel, by decide, by decide⟩ ggX3_load_X3_holds mm_X3_load_iX3 mm_X3_load_l18 mm_X3_load_tX3_holds (hP.sub (ws' := []) [] rfl) hK hl.1 rfl rfl (Nat.le_of_ble_eq_true rfl) dX3_load_1 ⟨Nat.zero_le _, Nat.zero_le _⟩ ?_
  refine lv_if_eq (x := (F_X3_holds a)) (tgt := 16) hx hb dX3_load_4 (by decide) (fun c1 => ?_) (fun c1 => ?_)
  · refine lv_lconst (v := (0 : Int64)) hx hb dX3_load_16 (by decide) ?_
    have e9 : (F_X3_load a mw ) = (0 : Int64) := by rw [F_X3_load, if_pos c1]
    rw [e9] at hV
    subst hV
    exact roRetL C0 rfl dX3_load_17
  · refine lv_aload_n hx hb dX3_load_7 rfl (lv_at hl 0 rfl) ?_
    refine va_get (D := (dC, dI)) (ci := 2) (v := .ref m1) (C := RX3) (T := TX3) (N := 2) hx hb hts mi_X3_load_X3 hown hK hP 0 rfl rfl 0 (by decide) (hts (.fieldLink RX3 9 "ScoreboardCore$Memory" "words" "[J") mm_X3_load_f9) (fun _ h9 => h9) rfl dX3_load_8 ?_
    refine lv_iload_n hx hb dX3_load_11 rfl (lv_at hl 1 rfl) ?_
    refine va_lald (D := (dC, dI)) hx hb hK hP 1 1 rfl rfl (holds_in c1) dX3_load_12 ?_
    refine lv_goto (tgt := 17) hx hb dX3_load_13 (by decide) ?_
    have e9 : (F_X3_load a mw ) = (mw a.toNatClampNeg) := by rw [F_X3_load, if_neg c1]
    rw [e9] at hV
    subst hV
    exact roRetL C0 rfl dX3_load_17
theorem c_X3_load (l : Launch) (dC : Nat → ClassId) (dI : Nat → Nat → Nat) (cI cJ : ClassId) (hM m1 m2 : Nat) (a : Int32) (mw : Nat → Int64) : RoL l yX3_load wsX3_load rm_X3_load (dC, dI) [(cI, .int), (cJ, .long)] [(hM, .inr (2, [.ref m1, .ref m2])), (m1, .inl (cJ, 512, .inr (.inl mw)))] [.ref hM, .int a] (F_X3_load a mw ) := by
  refine RoL.mk (cc := cX3_load) (nL := 2) (ret := (some .long)) [(0, .ref hM), (1, .int a)] (by decide) rfl (Nat.le_of_ble_eq_true rfl) rfl ?_
  intro p e s m below meth c C0 hP hK ls hl
  exact w_X3_load dC dI cI cJ hM m1 m2 a mw C0 hK hP rfl ls hl

-- X3_store
def F_X3_store (a : Int32) (v : Int64) (mw : Nat → Int64) : (Nat → Int64) :=
  (if (F_X3_holds a) = 0 then mw else (vp_updL mw a.toNatClampNeg (v &&& (1152921504606846975 : Int64))))
abbrev rm_X3_store : Room := { frames := 1, cells := 0, slots := 0, locals := 20 }
set_option maxRecDepth 20000 in
theorem mi_X3_store_X3 : ∀ w ∈ wsX30, w ∈ wsX3_store := by decide +kernel
set_option maxRecDepth 20000 in
theorem mm_X3_store_f9 : Cond.fieldLink RX3 9 "ScoreboardCore$Memory" "words" "[J" ∈ wsX3_store := by decide +kernel
set_option maxRecDepth 20000 in
theorem mm_X3_store_iX3 : Cond.initialized RX3 ∈ wsX3_store := by decide +kernel
set_option maxRecDepth 20000 in
theorem mm_X3_store_k22 : Cond.constantLong RX3 22 (1152921504606846975) ∈ wsX3_store := by decide +kernel
set_option maxRecDepth 20000 in
theorem mm_X3_store_l18 : Cond.methodLink RX3 18 yX3_holds ∈ wsX3_store := by decide +kernel
set_option maxRecDepth 20000 in
theorem mm_X3_store_tX3_holds : Cond.static yX3_holds ∈ wsX3_store := by decide +kernel
set_option maxHeartbeats 4000000 in
set_option maxRecDepth 100000 in
theorem w_X3_store {p : Program} {l : Launch} {e : Env} {s : State} {m : MethodId} {below : List Frame} {meth : Method} {c : Code} {args : Array Value} (dC : Nat → ClassId) (dI : Nat → Nat → Nat) (cI cJ : ClassId) (hM m1 m2 : Nat) (a : Int32) (v : Int64) (mw : Nat → Int64) {w0 : va_W} (C0 : Cx p s m meth c cX3_store 4 none wsX3_store RX3 args) (hK : va_K (dC, dI) vwCl [(cI, .int), (cJ, .long)] s) (hZ : Zs false (va_A w0 s.heap.size) s s.heap) {V : (Nat → Int64)} (hV : (F_X3_store a v mw ) = V) (ls : Array Slot) (hl : lv_has ls 4 [(0, .ref hM), (1, .int a), (2, .long v)]) {H : Heap} {locs : List Loc} (hP : va_P (dC, dI) vwCl [(hM, .inr (2, [.ref m1, .ref m2])), (m1, .inl (cJ, 512, .inr (.inl mw)))] H) (hD : va_D (va_A w0 s.heap.size) [(hM, .inr (2, [.ref m1, .ref m2])), (m1, .inl (cJ, 512, .inr (.inl mw)))]) (hS : va_S (va_A w0 s.heap.size) s.heap H locs) : W p l e rm_X3_store s m args below meth c H locs 0 0 (MQ below (QV (dC, dI) [(cI, .int), (cJ, .long)] w0 [(hM, .inr (2, [.ref m1, .ref m2])), (m1, .inl (cJ, 512, .inr (.inl V)))] s.heap.size) args s 0 0 (va_A w0 s.heap.size)) (F0 m 0 ls []) := by
  obtain ⟨hx, hb, hr, hlk, hml, hown, hts⟩ := id C0
  have hA : ∀ q : Nat, s.heap.size ≤ q → va_A w0 s.heap.size q := fun q h => Or.inr h
  refine lv_iload_n hx hb dX3_store_0 rfl (lv_at hl 1 rfl) ?_
  refine roSi (As := [.int a]) (rest := []) (bytes := cX3_holds) (maxL := 1) (rty := (some .boolean)) (n := 1) C0 (c_X3_holds l dC dI cI cJ a) ⟨rfl, rfl, rfl, by decide +kernel, by decide, by decide⟩ ggX3_store_X3_holds mm_X3_store_iX3 mm_X3_store_l18 mm_X3_store_tX3_holds (hP.sub (ws' := []) [] rfl) hK hl.1 rfl rfl (Nat.le_of_ble_eq_true rfl) dX3_store_1 ⟨Nat.zero_le _, Nat.zero_le _⟩ ?_
  refine lv_if_eq (x := (F_X3_holds a)) (tgt := 18) hx hb dX3_store_4 (by decide) (fun c1 => ?_) (fun c1 => ?_)
  · have e9 : (F_X3_store a v mw ) = mw := by rw [F_X3_store, if_pos c1]
    rw [e9] at hV
    subst hV
    exact wrRetV C0 hK hP hD hS dX3_store_18
  · refine lv_aload_n hx hb dX3_store_7 rfl (lv_at hl 0 rfl) ?_
    refine va_get (D := (dC, dI)) (ci := 2) (v := .ref m1) (C := RX3) (T := TX3) (N := 2) hx hb hts mi_X3_store_X3 hown hK hP 0 rfl rfl 0 (by decide) (hts (.fieldLink RX3 9 "ScoreboardCore$Memory" "words" "[J") mm_X3_store_f9) (fun _ h9 => h9) rfl dX3_store_8 ?_
    refine lv_iload_n hx hb dX3_store_11 rfl (lv_at hl 1 rfl) ?_
    refine lv_lload_n hx hb dX3_store_12 rfl (lv_at hl 2 rfl) ?_
    refine lv_ldc2 (v := (1152921504606846975 : Int64)) hx hb hown (hts _ mm_X3_store_k22) dX3_store_13 ?_
    refine lv_land hx hb dX3_store_16 ?_
    refine va_last (D := (dC, dI)) hx hb hK hP hD hS 1 1 rfl rfl (holds_in c1) dX3_store_17 (fun H locs hP hD hS => ?_)
    have hP : va_P (dC, dI) vwCl [(hM, .inr (2, [.ref m1, .ref m2])), (m1, .inl (cJ, 512, .inr (.inl (vp_updL mw a.toNatClampNeg (v &&& (1152921504606846975 : Int64))))))] H := hP
    have hD : va_D (va_A w0 s.heap.size) [(hM, .inr (2, [.ref m1, .ref m2])), (m1, .inl (cJ, 512, .inr (.inl (vp_updL mw a.toNatClampNeg (v &&& (1152921504606846975 : Int64))))))] := hD
    have e9 : (F_X3_store a v mw ) = (vp_updL mw a.toNatClampNeg (v &&& (1152921504606846975 : Int64))) := by rw [F_X3_store, if_neg c1]
    rw [e9] at hV
    subst hV
    exact wrRetV C0 hK hP hD hS dX3_store_18
theorem c_X3_store (l : Launch) (dC : Nat → ClassId) (dI : Nat → Nat → Nat) (cI cJ : ClassId) (hM m1 m2 : Nat) (a : Int32) (v : Int64) (mw : Nat → Int64) : WrV false l yX3_store wsX3_store rm_X3_store (dC, dI) [(cI, .int), (cJ, .long)] [(hM, .inr (2, [.ref m1, .ref m2])), (m1, .inl (cJ, 512, .inr (.inl mw)))] [(hM, .inr (2, [.ref m1, .ref m2])), (m1, .inl (cJ, 512, .inr (.inl (F_X3_store a v mw ))))] [.ref hM, .int a, .long v] := by
  refine WrV.mk (cc := cX3_store) (nL := 4) (ret := none) [(0, .ref hM), (1, .int a), (2, .long v)] (by decide) rfl (Nat.le_of_ble_eq_true rfl) rfl ?_
  intro p e s m below meth c C0 hP hK hD hS hZ ls hl
  exact w_X3_store dC dI cI cJ hM m1 m2 a v mw C0 hK hZ rfl ls hl hP hD hS

-- X3_programWord
def F_X3_programWord (a : Int32) (mp : Nat → Int64) : Int64 :=
  (if (F_X3_holds a) = 0 then (0 : Int64) else (mp a.toNatClampNeg))
abbrev rm_X3_programWord : Room := { frames := 1, cells := 0, slots := 0, locals := 20 }
set_option maxRecDepth 20000 in
theorem mi_X3_programWord_X3 : ∀ w ∈ wsX30, w ∈ wsX3_programWord := by decide +kernel
set_option maxRecDepth 20000 in
theorem mm_X3_programWord_f15 : Cond.fieldLink RX3 15 "ScoreboardCore$Memory" "program" "[J" ∈ wsX3_programWord := by decide +kernel
set_option maxRecDepth 20000 in
theorem mm_X3_programWord_iX3 : Cond.initialized RX3 ∈ wsX3_programWord := by decide +kernel
set_option maxRecDepth 20000 in
theorem mm_X3_programWord_l18 : Cond.methodLink RX3 18 yX3_holds ∈ wsX3_programWord := by decide +kernel
set_option maxRecDepth 20000 in
theorem mm_X3_programWord_tX3_holds : Cond.static yX3_holds ∈ wsX3_programWord := by decide +kernel
set_option maxHeartbeats 4000000 in
set_option maxRecDepth 100000 in
theorem w_X3_programWord {p : Program} {l : Launch} {e : Env} {s : State} {m : MethodId} {below : List Frame} {meth : Method} {c : Code} {args : Array Value} (dC : Nat → ClassId) (dI : Nat → Nat → Nat) (cI cJ : ClassId) (hM m2 m1 : Nat) (a : Int32) (mp : Nat → Int64) (C0 : Cx p s m meth c cX3_programWord 2 (some .long) wsX3_programWord RX3 args) (hK : va_K (dC, dI) vwCl [(cI, .int), (cJ, .long)] s) (hP : va_P (dC, dI) vwCl [(hM, .inr (2, [.ref m1, .ref m2])), (m2, .inl (cJ, 512, .inr (.inl mp)))] s.heap) {V : Int64} (hV : (F_X3_programWord a mp ) = V) (ls : Array Slot) (hl : lv_has ls 2 [(0, .ref hM), (1, .int a)]) : W p l e rm_X3_programWord s m args below meth c s.heap [] 0 0 (MQ below (vp_Sl (fun r => r = V)) args s 0 0 (fun _ => False)) (F0 m 0 ls []) := by
  obtain ⟨hx, hb, hr, hlk, hml, hown, hts⟩ := id C0
  refine lv_iload_n hx hb dX3_programWord_0 rfl (lv_at hl 1 rfl) ?_
  refine roSi (As := [.int a]) (rest := []) (bytes := cX3_holds) (maxL := 1) (rty := (some .boolean)) (n := 1) C0 (c_X3_holds l dC dI cI cJ a) ⟨rfl, rfl, rfl, by decide +kernel, by decide, by decide⟩ ggX3_programWord_X3_holds mm_X3_programWord_iX3 mm_X3_programWord_l18 mm_X3_programWord_tX3_holds (hP.sub (ws' := []) [] rfl) hK hl.1 rfl rfl (Nat.le_of_ble_eq_true rfl) dX3_programWord_1 ⟨Nat.zero_le _, Nat.zero_le _⟩ ?_
  refine lv_if_eq (x := (F_X3_holds a)) (tgt := 16) hx hb dX3_programWord_4 (by decide) (fun c1 => ?_) (fun c1 => ?_)
  · refine lv_lconst (v := (0 : Int64)) hx hb dX3_programWord_16 (by decide) ?_
    have e9 : (F_X3_programWord a mp ) = (0 : Int64) := by rw [F_X3_programWord, if_pos c1]
    rw [e9] at hV
    subst hV
    exact roRetL C0 rfl dX3_programWord_17
  · refine lv_aload_n hx hb dX3_programWord_7 rfl (lv_at hl 0 rfl) ?_
    refine va_get (D := (dC, dI)) (ci := 2) (v := .ref m2) (C := RX3) (T := TX3) (N := 2) hx hb hts mi_X3_programWord_X3 hown hK hP 0 rfl rfl 1 (by decide) (hts (.fieldLink RX3 15 "ScoreboardCore$Memory" "program" "[J") mm_X3_programWord_f15) (fun _ h9 => h9) rfl dX3_programWord_8 ?_
    refine lv_iload_n hx hb dX3_programWord_11 rfl (lv_at hl 1 rfl) ?_
    refine va_lald (D := (dC, dI)) hx hb hK hP 1 1 rfl rfl (holds_in c1) dX3_programWord_12 ?_
    refine lv_goto (tgt := 17) hx hb dX3_programWord_13 (by decide) ?_
    have e9 : (F_X3_programWord a mp ) = (mp a.toNatClampNeg) := by rw [F_X3_programWord, if_neg c1]
    rw [e9] at hV
    subst hV
    exact roRetL C0 rfl dX3_programWord_17
theorem c_X3_programWord (l : Launch) (dC : Nat → ClassId) (dI : Nat → Nat → Nat) (cI cJ : ClassId) (hM m2 m1 : Nat) (a : Int32) (mp : Nat → Int64) : RoL l yX3_programWord wsX3_programWord rm_X3_programWord (dC, dI) [(cI, .int), (cJ, .long)] [(hM, .inr (2, [.ref m1, .ref m2])), (m2, .inl (cJ, 512, .inr (.inl mp)))] [.ref hM, .int a] (F_X3_programWord a mp ) := by
  refine RoL.mk (cc := cX3_programWord) (nL := 2) (ret := (some .long)) [(0, .ref hM), (1, .int a)] (by decide) rfl (Nat.le_of_ble_eq_true rfl) rfl ?_
  intro p e s m below meth c C0 hP hK ls hl
  exact w_X3_programWord dC dI cI cJ hM m2 m1 a mp C0 hK hP rfl ls hl

-- X3_keepProgram
def F_X3_keepProgram (mw : Nat → Int64) (mp : Nat → Int64) : (Nat → Int64) :=
  (va_cpy mw mp (0 : Int32).toNatClampNeg (0 : Int32).toNatClampNeg (512 : Int32).toNatClampNeg)
abbrev rm_X3_keepProgram : Room := { frames := 1, cells := 0, slots := 0, locals := 40 }
set_option maxRecDepth 20000 in
theorem mi_X3_keepProgram_X3 : ∀ w ∈ wsX30, w ∈ wsX3_keepProgram := by decide +kernel
set_option maxRecDepth 20000 in
theorem mm_X3_keepProgram_f15 : Cond.fieldLink RX3 15 "ScoreboardCore$Memory" "program" "[J" ∈ wsX3_keepProgram := by decide +kernel
set_option maxRecDepth 20000 in
theorem mm_X3_keepProgram_f9 : Cond.fieldLink RX3 9 "ScoreboardCore$Memory" "words" "[J" ∈ wsX3_keepProgram := by decide +kernel
set_option maxRecDepth 20000 in
theorem mm_X3_keepProgram_isys : Cond.initialized "java/lang/System" ∈ wsX3_keepProgram := by decide +kernel
set_option maxRecDepth 20000 in
theorem mm_X3_keepProgram_l24 : Cond.methodLink RX3 24 arraycopyName ∈ wsX3_keepProgram := by decide +kernel
set_option maxRecDepth 20000 in
theorem mm_X3_keepProgram_nat : Cond.native arraycopyName ∈ wsX3_keepProgram := by decide +kernel
set_option maxRecDepth 20000 in
theorem mm_X3_keepProgram_stc : Cond.static arraycopyName ∈ wsX3_keepProgram := by decide +kernel
set_option maxHeartbeats 4000000 in
set_option maxRecDepth 100000 in
theorem w_X3_keepProgram {p : Program} {l : Launch} {e : Env} {s : State} {m : MethodId} {below : List Frame} {meth : Method} {c : Code} {args : Array Value} (dC : Nat → ClassId) (dI : Nat → Nat → Nat) (cI cJ : ClassId) (hM m1 m2 : Nat) (mw : Nat → Int64) (mp : Nat → Int64) {w0 : va_W} (C0 : Cx p s m meth c cX3_keepProgram 1 none wsX3_keepProgram RX3 args) (hK : va_K (dC, dI) vwCl [(cI, .int), (cJ, .long)] s) (hZ : Zs false (va_A w0 s.heap.size) s s.heap) {V : (Nat → Int64)} (hV : (F_X3_keepProgram mw mp ) = V) (ls : Array Slot) (hl : lv_has ls 1 [(0, .ref hM)]) {H : Heap} {locs : List Loc} (hP : va_P (dC, dI) vwCl [(hM, .inr (2, [.ref m1, .ref m2])), (m1, .inl (cJ, 512, .inr (.inl mw))), (m2, .inl (cJ, 512, .inr (.inl mp)))] H) (hD : va_D (va_A w0 s.heap.size) [(hM, .inr (2, [.ref m1, .ref m2])), (m1, .inl (cJ, 512, .inr (.inl mw))), (m2, .inl (cJ, 512, .inr (.inl mp)))]) (hS : va_S (va_A w0 s.heap.size) s.heap H locs) : W p l e rm_X3_keepProgram s m args below meth c H locs 0 0 (MQ below (QV (dC, dI) [(cI, .int), (cJ, .long)] w0 [(hM, .inr (2, [.ref m1, .ref m2])), (m1, .inl (cJ, 512, .inr (.inl mw))), (m2, .inl (cJ, 512, .inr (.inl V)))] s.heap.size) args s 0 0 (va_A w0 s.heap.size)) (F0 m 0 ls []) := by
  obtain ⟨hx, hb, hr, hlk, hml, hown, hts⟩ := id C0
  have hA : ∀ q : Nat, s.heap.size ≤ q → va_A w0 s.heap.size q := fun q h => Or.inr h
  refine lv_aload_n hx hb dX3_keepProgram_0 rfl (lv_at hl 0 rfl) ?_
  refine va_get (D := (dC, dI)) (ci := 2) (v := .ref m1) (C := RX3) (T := TX3) (N := 2) hx hb hts mi_X3_keepProgram_X3 hown hK hP 0 rfl rfl 0 (by decide) (hts (.fieldLink RX3 9 "ScoreboardCore$Memory" "words" "[J") mm_X3_keepProgram_f9) (fun _ h9 => h9) rfl dX3_keepProgram_1 ?_
  refine lv_iconst (v := (0 : Int32)) hx hb dX3_keepProgram_4 (by decide) ?_
  refine lv_aload_n hx hb dX3_keepProgram_5 rfl (lv_at hl 0 rfl) ?_
  refine va_get (D := (dC, dI)) (ci := 2) (v := .ref m2) (C := RX3) (T := TX3) (N := 2) hx hb hts mi_X3_keepProgram_X3 hown hK hP 0 rfl rfl 1 (by decide) (hts (.fieldLink RX3 15 "ScoreboardCore$Memory" "program" "[J") mm_X3_keepProgram_f15) (fun _ h9 => h9) rfl dX3_keepProgram_6 ?_
  refine lv_iconst (v := (0 : Int32)) hx hb dX3_keepProgram_9 (by decide) ?_
  refine lv_sipush (v := (512 : Int32)) hx hb dX3_keepProgram_10 (by decide) ?_
  refine va_copyl (D := (dC, dI)) (a0 := m1) (sp := (0 : Int32)) (dp := (0 : Int32)) (n := (512 : Int32)) hx hb (by rw [hml]; exact hl.1.symm) hown (hts _ mm_X3_keepProgram_l24) (hts _ mm_X3_keepProgram_nat) (hts _ mm_X3_keepProgram_stc) (hts _ mm_X3_keepProgram_isys) hK hP hD hS 1 2 1 1 rfl rfl rfl rfl rfl (by decide) (by decide) (by decide) (by decide) (by decide) (fun _ _ => rfl) (by decide) (by decide +kernel) dX3_keepProgram_13 (fun H locs hP hD hS => ?_)
  have hP : va_P (dC, dI) vwCl [(hM, .inr (2, [.ref m1, .ref m2])), (m1, .inl (cJ, 512, .inr (.inl mw))), (m2, .inl (cJ, 512, .inr (.inl (va_cpy mw mp (0 : Int32).toNatClampNeg (0 : Int32).toNatClampNeg (512 : Int32).toNatClampNeg))))] H := hP
  have hD : va_D (va_A w0 s.heap.size) [(hM, .inr (2, [.ref m1, .ref m2])), (m1, .inl (cJ, 512, .inr (.inl mw))), (m2, .inl (cJ, 512, .inr (.inl (va_cpy mw mp (0 : Int32).toNatClampNeg (0 : Int32).toNatClampNeg (512 : Int32).toNatClampNeg))))] := hD
  have e9 : (F_X3_keepProgram mw mp ) = (va_cpy mw mp (0 : Int32).toNatClampNeg (0 : Int32).toNatClampNeg (512 : Int32).toNatClampNeg) := by rw [F_X3_keepProgram]
  rw [e9] at hV
  subst hV
  exact wrRetV C0 hK hP hD hS dX3_keepProgram_16
theorem c_X3_keepProgram (l : Launch) (dC : Nat → ClassId) (dI : Nat → Nat → Nat) (cI cJ : ClassId) (hM m1 m2 : Nat) (mw : Nat → Int64) (mp : Nat → Int64) : WrV false l yX3_keepProgram wsX3_keepProgram rm_X3_keepProgram (dC, dI) [(cI, .int), (cJ, .long)] [(hM, .inr (2, [.ref m1, .ref m2])), (m1, .inl (cJ, 512, .inr (.inl mw))), (m2, .inl (cJ, 512, .inr (.inl mp)))] [(hM, .inr (2, [.ref m1, .ref m2])), (m1, .inl (cJ, 512, .inr (.inl mw))), (m2, .inl (cJ, 512, .inr (.inl (F_X3_keepProgram mw mp ))))] [.ref hM] := by
  refine WrV.mk (cc := cX3_keepProgram) (nL := 1) (ret := none) [(0, .ref hM)] (by decide) rfl (Nat.le_of_ble_eq_true rfl) rfl ?_
  intro p e s m below meth c C0 hP hK hD hS hZ ls hl
  exact w_X3_keepProgram dC dI cI cJ hM m1 m2 mw mp C0 hK hZ rfl ls hl hP hD hS

-- X3_storeInProgram
def F_X3_storeInProgram (a : Int32) (v : Int64) (mw : Nat → Int64) (mp : Nat → Int64) : (Nat → Int64) × (Nat → Int64) :=
  (if (F_X3_holds a) = 0 then ((F_X3_store a v mw), mp) else ((F_X3_store a v mw), (vp_updL mp a.toNatClampNeg (v &&& (1152921504606846975 : Int64)))))
abbrev rm_X3_storeInProgram : Room := { frames := 2, cells := 0, slots := 0, locals := 43 }
set_option maxRecDepth 20000 in
theorem mi_X3_storeInProgram_X3 : ∀ w ∈ wsX30, w ∈ wsX3_storeInProgram := by decide +kernel
set_option maxRecDepth 20000 in
theorem mm_X3_storeInProgram_f15 : Cond.fieldLink RX3 15 "ScoreboardCore$Memory" "program" "[J" ∈ wsX3_storeInProgram := by decide +kernel
set_option maxRecDepth 20000 in
theorem mm_X3_storeInProgram_iX3 : Cond.initialized RX3 ∈ wsX3_storeInProgram := by decide +kernel
set_option maxRecDepth 20000 in
theorem mm_X3_storeInProgram_k22 : Cond.constantLong RX3 22 (1152921504606846975) ∈ wsX3_storeInProgram := by decide +kernel
set_option maxRecDepth 20000 in
theorem mm_X3_storeInProgram_l18 : Cond.methodLink RX3 18 yX3_holds ∈ wsX3_storeInProgram := by decide +kernel
set_option maxRecDepth 20000 in
theorem mm_X3_storeInProgram_l30 : Cond.methodLink RX3 30 yX3_store ∈ wsX3_storeInProgram := by decide +kernel
set_option maxRecDepth 20000 in
theorem mm_X3_storeInProgram_nX3_store : Cond.instanceMethod yX3_store ∈ wsX3_storeInProgram := by decide +kernel
set_option maxRecDepth 20000 in
theorem mm_X3_storeInProgram_sX3_store : Cond.selects RX3 yX3_store yX3_store ∈ wsX3_storeInProgram := by decide +kernel
set_option maxRecDepth 20000 in
theorem mm_X3_storeInProgram_tX3_holds : Cond.static yX3_holds ∈ wsX3_storeInProgram := by decide +kernel
set_option maxHeartbeats 4000000 in
set_option maxRecDepth 100000 in
theorem w_X3_storeInProgram {p : Program} {l : Launch} {e : Env} {s : State} {m : MethodId} {below : List Frame} {meth : Method} {c : Code} {args : Array Value} (dC : Nat → ClassId) (dI : Nat → Nat → Nat) (cI cJ : ClassId) (hM m1 m2 : Nat) (a : Int32) (v : Int64) (mw : Nat → Int64) (mp : Nat → Int64) {w0 : va_W} (C0 : Cx p s m meth c cX3_storeInProgram 4 none wsX3_storeInProgram RX3 args) (hK : va_K (dC, dI) vwCl [(cI, .int), (cJ, .long)] s) (hZ : Zs false (va_A w0 s.heap.size) s s.heap) {V : (Nat → Int64) × (Nat → Int64)} (hV : (F_X3_storeInProgram a v mw mp ) = V) (ls : Array Slot) (hl : lv_has ls 4 [(0, .ref hM), (1, .int a), (2, .long v)]) {H : Heap} {locs : List Loc} (hP : va_P (dC, dI) vwCl [(hM, .inr (2, [.ref m1, .ref m2])), (m1, .inl (cJ, 512, .inr (.inl mw))), (m2, .inl (cJ, 512, .inr (.inl mp)))] H) (hD : va_D (va_A w0 s.heap.size) [(hM, .inr (2, [.ref m1, .ref m2])), (m1, .inl (cJ, 512, .inr (.inl mw))), (m2, .inl (cJ, 512, .inr (.inl mp)))]) (hS : va_S (va_A w0 s.heap.size) s.heap H locs) : W p l e rm_X3_storeInProgram s m args below meth c H locs 0 0 (MQ below (QV (dC, dI) [(cI, .int), (cJ, .long)] w0 [(hM, .inr (2, [.ref m1, .ref m2])), (m1, .inl (cJ, 512, .inr (.inl V.1))), (m2, .inl (cJ, 512, .inr (.inl V.2)))] s.heap.size) args s 0 0 (va_A w0 s.heap.size)) (F0 m 0 ls []) := by
  obtain ⟨hx, hb, hr, hlk, hml, hown, hts⟩ := id C0
  have hA : ∀ q : Nat, s.heap.size ≤ q → va_A w0 s.heap.size q := fun q h => Or.inr h
  refine lv_aload_n hx hb dX3_storeInProgram_0 rfl (lv_at hl 0 rfl) ?_
  refine lv_iload_n hx hb dX3_storeInProgram_1 rfl (lv_at hl 1 rfl) ?_
  refine lv_lload_n hx hb dX3_storeInProgram_2 rfl (lv_at hl 2 rfl) ?_
  refine wrVv (As := [.int a, .long v]) (rest := []) (bytes := cX3_store) (maxL := 4) (rty := none) (n := 2) (ci := 2) C0 (c_X3_store l dC dI cI cJ hM m1 m2 a v mw) ⟨rfl, rfl, rfl, by decide +kernel, by decide, by decide⟩ ggX3_storeInProgram_X3_store mm_X3_storeInProgram_iX3 mm_X3_storeInProgram_l30 mm_X3_storeInProgram_nX3_store mm_X3_storeInProgram_sX3_store rfl rfl hP hD hK hS hA (Zs.no _ _ _) [0, 1] [2] [1, 2, 0] [(m2, .inl (cJ, 512, .inr (.inl mp)))] [(hM, .inr (2, [.ref m1, .ref m2])), (m1, .inl (cJ, 512, .inr (.inl (F_X3_store a v mw)))), (m2, .inl (cJ, 512, .inr (.inl mp)))] rfl (by decide) (hP.sub (ws' := [(hM, .inr (2, [.ref m1, .ref m2])), (m1, .inl (cJ, 512, .inr (.inl mw)))]) [0, 1] rfl) rfl (by decide) (by decide) (by decide) rfl hl.1 rfl rfl (Nat.le_of_ble_eq_true rfl) dX3_storeInProgram_3 ⟨Nat.zero_le _, Nat.zero_le _⟩ (fun H locs hP hD hS => ?_)
  refine lv_iload_n hx hb dX3_storeInProgram_6 rfl (lv_at hl 1 rfl) ?_
  refine roSi (As := [.int a]) (rest := []) (bytes := cX3_holds) (maxL := 1) (rty := (some .boolean)) (n := 1) C0 (c_X3_holds l dC dI cI cJ a) ⟨rfl, rfl, rfl, by decide +kernel, by decide, by decide⟩ ggX3_storeInProgram_X3_holds mm_X3_storeInProgram_iX3 mm_X3_storeInProgram_l18 mm_X3_storeInProgram_tX3_holds (hP.sub (ws' := []) [] rfl) hK hl.1 rfl rfl (Nat.le_of_ble_eq_true rfl) dX3_storeInProgram_7 ⟨Nat.zero_le _, Nat.zero_le _⟩ ?_
  refine lv_if_eq (x := (F_X3_holds a)) (tgt := 24) hx hb dX3_storeInProgram_10 (by decide) (fun c1 => ?_) (fun c1 => ?_)
  · have e9 : (F_X3_storeInProgram a v mw mp ) = ((F_X3_store a v mw), mp) := by rw [F_X3_storeInProgram, if_pos c1]
    rw [e9] at hV
    subst hV
    exact wrRetV C0 hK hP hD hS dX3_storeInProgram_24
  · refine lv_aload_n hx hb dX3_storeInProgram_13 rfl (lv_at hl 0 rfl) ?_
    refine va_get (D := (dC, dI)) (ci := 2) (v := .ref m2) (C := RX3) (T := TX3) (N := 2) hx hb hts mi_X3_storeInProgram_X3 hown hK hP 0 rfl rfl 1 (by decide) (hts (.fieldLink RX3 15 "ScoreboardCore$Memory" "program" "[J") mm_X3_storeInProgram_f15) (fun _ h9 => h9) rfl dX3_storeInProgram_14 ?_
    refine lv_iload_n hx hb dX3_storeInProgram_17 rfl (lv_at hl 1 rfl) ?_
    refine lv_lload_n hx hb dX3_storeInProgram_18 rfl (lv_at hl 2 rfl) ?_
    refine lv_ldc2 (v := (1152921504606846975 : Int64)) hx hb hown (hts _ mm_X3_storeInProgram_k22) dX3_storeInProgram_19 ?_
    refine lv_land hx hb dX3_storeInProgram_22 ?_
    refine va_last (D := (dC, dI)) hx hb hK hP hD hS 2 1 rfl rfl (holds_in c1) dX3_storeInProgram_23 (fun H locs hP hD hS => ?_)
    have hP : va_P (dC, dI) vwCl [(hM, .inr (2, [.ref m1, .ref m2])), (m1, .inl (cJ, 512, .inr (.inl (F_X3_store a v mw)))), (m2, .inl (cJ, 512, .inr (.inl (vp_updL mp a.toNatClampNeg (v &&& (1152921504606846975 : Int64))))))] H := hP
    have hD : va_D (va_A w0 s.heap.size) [(hM, .inr (2, [.ref m1, .ref m2])), (m1, .inl (cJ, 512, .inr (.inl (F_X3_store a v mw)))), (m2, .inl (cJ, 512, .inr (.inl (vp_updL mp a.toNatClampNeg (v &&& (1152921504606846975 : Int64))))))] := hD
    have e9 : (F_X3_storeInProgram a v mw mp ) = ((F_X3_store a v mw), (vp_updL mp a.toNatClampNeg (v &&& (1152921504606846975 : Int64)))) := by rw [F_X3_storeInProgram, if_neg c1]
    rw [e9] at hV
    subst hV
    exact wrRetV C0 hK hP hD hS dX3_storeInProgram_24
theorem c_X3_storeInProgram (l : Launch) (dC : Nat → ClassId) (dI : Nat → Nat → Nat) (cI cJ : ClassId) (hM m1 m2 : Nat) (a : Int32) (v : Int64) (mw : Nat → Int64) (mp : Nat → Int64) : WrV false l yX3_storeInProgram wsX3_storeInProgram rm_X3_storeInProgram (dC, dI) [(cI, .int), (cJ, .long)] [(hM, .inr (2, [.ref m1, .ref m2])), (m1, .inl (cJ, 512, .inr (.inl mw))), (m2, .inl (cJ, 512, .inr (.inl mp)))] [(hM, .inr (2, [.ref m1, .ref m2])), (m1, .inl (cJ, 512, .inr (.inl ((F_X3_storeInProgram a v mw mp ).1)))), (m2, .inl (cJ, 512, .inr (.inl ((F_X3_storeInProgram a v mw mp ).2))))] [.ref hM, .int a, .long v] := by
  refine WrV.mk (cc := cX3_storeInProgram) (nL := 4) (ret := none) [(0, .ref hM), (1, .int a), (2, .long v)] (by decide) rfl (Nat.le_of_ble_eq_true rfl) rfl ?_
  intro p e s m below meth c C0 hP hK hD hS hZ ls hl
  exact w_X3_storeInProgram dC dI cI cJ hM m1 m2 a v mw mp C0 hK hZ rfl ls hl hP hD hS

-- X6_get
def F_X6_get (k : Int32) (gv : Nat → Int64) : Int64 :=
  (gv k.toNatClampNeg)
abbrev rm_X6_get : Room := { frames := 0, cells := 0, slots := 0, locals := 0 }
set_option maxRecDepth 20000 in
theorem mi_X6_get_X6 : ∀ w ∈ wsX60, w ∈ wsX6_get := by decide +kernel
set_option maxRecDepth 20000 in
theorem mm_X6_get_f9 : Cond.fieldLink RX6 9 "ScoreboardCore$Registers" "values" "[J" ∈ wsX6_get := by decide +kernel
set_option maxHeartbeats 4000000 in
set_option maxRecDepth 100000 in
theorem w_X6_get {p : Program} {l : Launch} {e : Env} {s : State} {m : MethodId} {below : List Frame} {meth : Method} {c : Code} {args : Array Value} (dC : Nat → ClassId) (dI : Nat → Nat → Nat) (cI cJ : ClassId) (hG g1 : Nat) (k : Int32) (gv : Nat → Int64) (C0 : Cx p s m meth c cX6_get 2 (some .long) wsX6_get RX6 args) (hK : va_K (dC, dI) vwCl [(cI, .int), (cJ, .long)] s) (hP : va_P (dC, dI) vwCl [(hG, .inr (4, [.ref g1])), (g1, .inl (cJ, 24, .inr (.inl gv)))] s.heap) (hk : vp_in k 24) {V : Int64} (hV : (F_X6_get k gv ) = V) (ls : Array Slot) (hl : lv_has ls 2 [(0, .ref hG), (1, .int k)]) : W p l e rm_X6_get s m args below meth c s.heap [] 0 0 (MQ below (vp_Sl (fun r => r = V)) args s 0 0 (fun _ => False)) (F0 m 0 ls []) := by
  obtain ⟨hx, hb, hr, hlk, hml, hown, hts⟩ := id C0
  refine lv_aload_n hx hb dX6_get_0 rfl (lv_at hl 0 rfl) ?_
  refine va_get (D := (dC, dI)) (ci := 4) (v := .ref g1) (C := RX6) (T := TX6) (N := 1) hx hb hts mi_X6_get_X6 hown hK hP 0 rfl rfl 0 (by decide) (hts (.fieldLink RX6 9 "ScoreboardCore$Registers" "values" "[J") mm_X6_get_f9) (fun _ h9 => h9) rfl dX6_get_1 ?_
  refine lv_iload_n hx hb dX6_get_4 rfl (lv_at hl 1 rfl) ?_
  refine va_lald (D := (dC, dI)) hx hb hK hP 1 1 rfl rfl hk dX6_get_5 ?_
  have e9 : (F_X6_get k gv ) = (gv k.toNatClampNeg) := by rw [F_X6_get]
  rw [e9] at hV
  subst hV
  exact roRetL C0 rfl dX6_get_6
theorem c_X6_get (l : Launch) (dC : Nat → ClassId) (dI : Nat → Nat → Nat) (cI cJ : ClassId) (hG g1 : Nat) (k : Int32) (gv : Nat → Int64) (hk : vp_in k 24) : RoL l yX6_get wsX6_get rm_X6_get (dC, dI) [(cI, .int), (cJ, .long)] [(hG, .inr (4, [.ref g1])), (g1, .inl (cJ, 24, .inr (.inl gv)))] [.ref hG, .int k] (F_X6_get k gv ) := by
  refine RoL.mk (cc := cX6_get) (nL := 2) (ret := (some .long)) [(0, .ref hG), (1, .int k)] (by decide) rfl (Nat.le_of_ble_eq_true rfl) rfl ?_
  intro p e s m below meth c C0 hP hK ls hl
  exact w_X6_get dC dI cI cJ hG g1 k gv C0 hK hP hk rfl ls hl

-- X6_x
def F_X6_x (k : Int32) (gv : Nat → Int64) : Int64 :=
  (gv k.toNatClampNeg)
abbrev rm_X6_x : Room := { frames := 0, cells := 0, slots := 0, locals := 0 }
set_option maxRecDepth 20000 in
theorem mi_X6_x_X6 : ∀ w ∈ wsX60, w ∈ wsX6_x := by decide +kernel
set_option maxRecDepth 20000 in
theorem mm_X6_x_f9 : Cond.fieldLink RX6 9 "ScoreboardCore$Registers" "values" "[J" ∈ wsX6_x := by decide +kernel
set_option maxHeartbeats 4000000 in
set_option maxRecDepth 100000 in
theorem w_X6_x {p : Program} {l : Launch} {e : Env} {s : State} {m : MethodId} {below : List Frame} {meth : Method} {c : Code} {args : Array Value} (dC : Nat → ClassId) (dI : Nat → Nat → Nat) (cI cJ : ClassId) (hG g1 : Nat) (k : Int32) (gv : Nat → Int64) (C0 : Cx p s m meth c cX6_x 2 (some .long) wsX6_x RX6 args) (hK : va_K (dC, dI) vwCl [(cI, .int), (cJ, .long)] s) (hP : va_P (dC, dI) vwCl [(hG, .inr (4, [.ref g1])), (g1, .inl (cJ, 24, .inr (.inl gv)))] s.heap) (hk : vp_in k 24) {V : Int64} (hV : (F_X6_x k gv ) = V) (ls : Array Slot) (hl : lv_has ls 2 [(0, .ref hG), (1, .int k)]) : W p l e rm_X6_x s m args below meth c s.heap [] 0 0 (MQ below (vp_Sl (fun r => r = V)) args s 0 0 (fun _ => False)) (F0 m 0 ls []) := by
  obtain ⟨hx, hb, hr, hlk, hml, hown, hts⟩ := id C0
  refine lv_aload_n hx hb dX6_x_0 rfl (lv_at hl 0 rfl) ?_
  refine va_get (D := (dC, dI)) (ci := 4) (v := .ref g1) (C := RX6) (T := TX6) (N := 1) hx hb hts mi_X6_x_X6 hown hK hP 0 rfl rfl 0 (by decide) (hts (.fieldLink RX6 9 "ScoreboardCore$Registers" "values" "[J") mm_X6_x_f9) (fun _ h9 => h9) rfl dX6_x_1 ?_
  refine lv_iload_n hx hb dX6_x_4 rfl (lv_at hl 1 rfl) ?_
  refine va_lald (D := (dC, dI)) hx hb hK hP 1 1 rfl rfl hk dX6_x_5 ?_
  have e9 : (F_X6_x k gv ) = (gv k.toNatClampNeg) := by rw [F_X6_x]
  rw [e9] at hV
  subst hV
  exact roRetL C0 rfl dX6_x_6
theorem c_X6_x (l : Launch) (dC : Nat → ClassId) (dI : Nat → Nat → Nat) (cI cJ : ClassId) (hG g1 : Nat) (k : Int32) (gv : Nat → Int64) (hk : vp_in k 24) : RoL l yX6_x wsX6_x rm_X6_x (dC, dI) [(cI, .int), (cJ, .long)] [(hG, .inr (4, [.ref g1])), (g1, .inl (cJ, 24, .inr (.inl gv)))] [.ref hG, .int k] (F_X6_x k gv ) := by
  refine RoL.mk (cc := cX6_x) (nL := 2) (ret := (some .long)) [(0, .ref hG), (1, .int k)] (by decide) rfl (Nat.le_of_ble_eq_true rfl) rfl ?_
  intro p e s m below meth c C0 hP hK ls hl
  exact w_X6_x dC dI cI cJ hG g1 k gv C0 hK hP hk rfl ls hl

-- X6_a
def F_X6_a (k : Int32) (gv : Nat → Int64) : Int64 :=
  (gv ((8 : Int32) + k).toNatClampNeg)
abbrev rm_X6_a : Room := { frames := 0, cells := 0, slots := 0, locals := 0 }
set_option maxRecDepth 20000 in
theorem mi_X6_a_X6 : ∀ w ∈ wsX60, w ∈ wsX6_a := by decide +kernel
set_option maxRecDepth 20000 in
theorem mm_X6_a_f9 : Cond.fieldLink RX6 9 "ScoreboardCore$Registers" "values" "[J" ∈ wsX6_a := by decide +kernel
set_option maxHeartbeats 4000000 in
set_option maxRecDepth 100000 in
theorem w_X6_a {p : Program} {l : Launch} {e : Env} {s : State} {m : MethodId} {below : List Frame} {meth : Method} {c : Code} {args : Array Value} (dC : Nat → ClassId) (dI : Nat → Nat → Nat) (cI cJ : ClassId) (hG g1 : Nat) (k : Int32) (gv : Nat → Int64) (C0 : Cx p s m meth c cX6_a 2 (some .long) wsX6_a RX6 args) (hK : va_K (dC, dI) vwCl [(cI, .int), (cJ, .long)] s) (hP : va_P (dC, dI) vwCl [(hG, .inr (4, [.ref g1])), (g1, .inl (cJ, 24, .inr (.inl gv)))] s.heap) (hk : vp_in ((8 : Int32) + k) 24) {V : Int64} (hV : (F_X6_a k gv ) = V) (ls : Array Slot) (hl : lv_has ls 2 [(0, .ref hG), (1, .int k)]) : W p l e rm_X6_a s m args below meth c s.heap [] 0 0 (MQ below (vp_Sl (fun r => r = V)) args s 0 0 (fun _ => False)) (F0 m 0 ls []) := by
  obtain ⟨hx, hb, hr, hlk, hml, hown, hts⟩ := id C0
  refine lv_aload_n hx hb dX6_a_0 rfl (lv_at hl 0 rfl) ?_
  refine va_get (D := (dC, dI)) (ci := 4) (v := .ref g1) (C := RX6) (T := TX6) (N := 1) hx hb hts mi_X6_a_X6 hown hK hP 0 rfl rfl 0 (by decide) (hts (.fieldLink RX6 9 "ScoreboardCore$Registers" "values" "[J") mm_X6_a_f9) (fun _ h9 => h9) rfl dX6_a_1 ?_
  refine lv_bipush (v := (8 : Int32)) hx hb dX6_a_4 (by decide) ?_
  refine lv_iload_n hx hb dX6_a_6 rfl (lv_at hl 1 rfl) ?_
  refine lv_iadd hx hb dX6_a_7 ?_
  refine va_lald (D := (dC, dI)) hx hb hK hP 1 1 rfl rfl hk dX6_a_8 ?_
  have e9 : (F_X6_a k gv ) = (gv ((8 : Int32) + k).toNatClampNeg) := by rw [F_X6_a]
  rw [e9] at hV
  subst hV
  exact roRetL C0 rfl dX6_a_9
theorem c_X6_a (l : Launch) (dC : Nat → ClassId) (dI : Nat → Nat → Nat) (cI cJ : ClassId) (hG g1 : Nat) (k : Int32) (gv : Nat → Int64) (hk : vp_in ((8 : Int32) + k) 24) : RoL l yX6_a wsX6_a rm_X6_a (dC, dI) [(cI, .int), (cJ, .long)] [(hG, .inr (4, [.ref g1])), (g1, .inl (cJ, 24, .inr (.inl gv)))] [.ref hG, .int k] (F_X6_a k gv ) := by
  refine RoL.mk (cc := cX6_a) (nL := 2) (ret := (some .long)) [(0, .ref hG), (1, .int k)] (by decide) rfl (Nat.le_of_ble_eq_true rfl) rfl ?_
  intro p e s m below meth c C0 hP hK ls hl
  exact w_X6_a dC dI cI cJ hG g1 k gv C0 hK hP hk rfl ls hl

-- X6_b
def F_X6_b (k : Int32) (gv : Nat → Int64) : Int64 :=
  (gv ((16 : Int32) + k).toNatClampNeg)
abbrev rm_X6_b : Room := { frames := 0, cells := 0, slots := 0, locals := 0 }
set_option maxRecDepth 20000 in
theorem mi_X6_b_X6 : ∀ w ∈ wsX60, w ∈ wsX6_b := by decide +kernel
set_option maxRecDepth 20000 in
theorem mm_X6_b_f9 : Cond.fieldLink RX6 9 "ScoreboardCore$Registers" "values" "[J" ∈ wsX6_b := by decide +kernel
set_option maxHeartbeats 4000000 in
set_option maxRecDepth 100000 in
theorem w_X6_b {p : Program} {l : Launch} {e : Env} {s : State} {m : MethodId} {below : List Frame} {meth : Method} {c : Code} {args : Array Value} (dC : Nat → ClassId) (dI : Nat → Nat → Nat) (cI cJ : ClassId) (hG g1 : Nat) (k : Int32) (gv : Nat → Int64) (C0 : Cx p s m meth c cX6_b 2 (some .long) wsX6_b RX6 args) (hK : va_K (dC, dI) vwCl [(cI, .int), (cJ, .long)] s) (hP : va_P (dC, dI) vwCl [(hG, .inr (4, [.ref g1])), (g1, .inl (cJ, 24, .inr (.inl gv)))] s.heap) (hk : vp_in ((16 : Int32) + k) 24) {V : Int64} (hV : (F_X6_b k gv ) = V) (ls : Array Slot) (hl : lv_has ls 2 [(0, .ref hG), (1, .int k)]) : W p l e rm_X6_b s m args below meth c s.heap [] 0 0 (MQ below (vp_Sl (fun r => r = V)) args s 0 0 (fun _ => False)) (F0 m 0 ls []) := by
  obtain ⟨hx, hb, hr, hlk, hml, hown, hts⟩ := id C0
  refine lv_aload_n hx hb dX6_b_0 rfl (lv_at hl 0 rfl) ?_
  refine va_get (D := (dC, dI)) (ci := 4) (v := .ref g1) (C := RX6) (T := TX6) (N := 1) hx hb hts mi_X6_b_X6 hown hK hP 0 rfl rfl 0 (by decide) (hts (.fieldLink RX6 9 "ScoreboardCore$Registers" "values" "[J") mm_X6_b_f9) (fun _ h9 => h9) rfl dX6_b_1 ?_
  refine lv_bipush (v := (16 : Int32)) hx hb dX6_b_4 (by decide) ?_
  refine lv_iload_n hx hb dX6_b_6 rfl (lv_at hl 1 rfl) ?_
  refine lv_iadd hx hb dX6_b_7 ?_
  refine va_lald (D := (dC, dI)) hx hb hK hP 1 1 rfl rfl hk dX6_b_8 ?_
  have e9 : (F_X6_b k gv ) = (gv ((16 : Int32) + k).toNatClampNeg) := by rw [F_X6_b]
  rw [e9] at hV
  subst hV
  exact roRetL C0 rfl dX6_b_9
theorem c_X6_b (l : Launch) (dC : Nat → ClassId) (dI : Nat → Nat → Nat) (cI cJ : ClassId) (hG g1 : Nat) (k : Int32) (gv : Nat → Int64) (hk : vp_in ((16 : Int32) + k) 24) : RoL l yX6_b wsX6_b rm_X6_b (dC, dI) [(cI, .int), (cJ, .long)] [(hG, .inr (4, [.ref g1])), (g1, .inl (cJ, 24, .inr (.inl gv)))] [.ref hG, .int k] (F_X6_b k gv ) := by
  refine RoL.mk (cc := cX6_b) (nL := 2) (ret := (some .long)) [(0, .ref hG), (1, .int k)] (by decide) rfl (Nat.le_of_ble_eq_true rfl) rfl ?_
  intro p e s m below meth c C0 hP hK ls hl
  exact w_X6_b dC dI cI cJ hG g1 k gv C0 hK hP hk rfl ls hl

-- X6_set
def F_X6_set_27 (t0 : Int64) (t1 : Int64) (t2 : Int32) (gv' : Nat → Int64) : (Nat → Int64) :=
  (vp_updL gv' t2.toNatClampNeg (t1 &&& t0))
def F_X6_set (k : Int32) (v : Int64) (gv : Nat → Int64) : (Nat → Int64) :=
  (if k = (16 : Int32) then gv else (if (8 : Int32) ≤ k then (F_X6_set_27 (262143 : Int64) v k gv) else (F_X6_set_27 (1152921504606846975 : Int64) v k gv)))
abbrev rm_X6_set : Room := { frames := 0, cells := 0, slots := 0, locals := 0 }
set_option maxRecDepth 20000 in
theorem mi_X6_set_X6 : ∀ w ∈ wsX60, w ∈ wsX6_set := by decide +kernel
set_option maxRecDepth 20000 in
theorem mm_X6_set_f9 : Cond.fieldLink RX6 9 "ScoreboardCore$Registers" "values" "[J" ∈ wsX6_set := by decide +kernel
set_option maxRecDepth 20000 in
theorem mm_X6_set_k15 : Cond.constantLong RX6 15 (1152921504606846975) ∈ wsX6_set := by decide +kernel
set_option maxRecDepth 20000 in
theorem mm_X6_set_k17 : Cond.constantLong RX6 17 (262143) ∈ wsX6_set := by decide +kernel
set_option maxHeartbeats 4000000 in
set_option maxRecDepth 100000 in
theorem j_X6_set_27 {p : Program} {l : Launch} {e : Env} {s : State} {m : MethodId} {below : List Frame} {meth : Method} {c : Code} {args : Array Value} (dC : Nat → ClassId) (dI : Nat → Nat → Nat) (cI cJ : ClassId) (hG g1 : Nat) (k : Int32) (v : Int64) (gv : Nat → Int64) {w0 : va_W} (C0 : Cx p s m meth c cX6_set 4 none wsX6_set RX6 args) (hK : va_K (dC, dI) vwCl [(cI, .int), (cJ, .long)] s) (hZ : Zs false (va_A w0 s.heap.size) s s.heap) (hk : vp_in k 24) (t0 : Int64) (t1 : Int64) (t2 : Int32) (gv' : Nat → Int64) (hk2 : vp_in t2 24) {V : (Nat → Int64)} (hV : (F_X6_set_27 t0 t1 t2 gv') = V) (ls : Array Slot) (hl : lv_has ls 4 []) {H : Heap} {locs : List Loc} (hP : va_P (dC, dI) vwCl [(hG, .inr (4, [.ref g1])), (g1, .inl (cJ, 24, .inr (.inl gv')))] H) (hD : va_D (va_A w0 s.heap.size) [(hG, .inr (4, [.ref g1])), (g1, .inl (cJ, 24, .inr (.inl gv')))]) (hS : va_S (va_A w0 s.heap.size) s.heap H locs) : W p l e rm_X6_set s m args below meth c H locs 0 0 (MQ below (QV (dC, dI) [(cI, .int), (cJ, .long)] w0 [(hG, .inr (4, [.ref g1])), (g1, .inl (cJ, 24, .inr (.inl V)))] s.heap.size) args s 0 0 (va_A w0 s.heap.size)) (F0 m 27 ls [.long t0, .long t1, .int t2, .ref g1]) := by
  obtain ⟨hx, hb, hr, hlk, hml, hown, hts⟩ := id C0
  have hA : ∀ q : Nat, s.heap.size ≤ q → va_A w0 s.heap.size q := fun q h => Or.inr h
  refine lv_land hx hb dX6_set_27 ?_
  refine va_last (D := (dC, dI)) hx hb hK hP hD hS 1 1 rfl rfl hk2 dX6_set_28 (fun H locs hP hD hS => ?_)
  have hP : va_P (dC, dI) vwCl [(hG, .inr (4, [.ref g1])), (g1, .inl (cJ, 24, .inr (.inl (vp_updL gv' t2.toNatClampNeg (t1 &&& t0)))))] H := hP
  have hD : va_D (va_A w0 s.heap.size) [(hG, .inr (4, [.ref g1])), (g1, .inl (cJ, 24, .inr (.inl (vp_updL gv' t2.toNatClampNeg (t1 &&& t0)))))] := hD
  have e9 : (F_X6_set_27 t0 t1 t2 gv') = (vp_updL gv' t2.toNatClampNeg (t1 &&& t0)) := by rw [F_X6_set_27]
  rw [e9] at hV
  subst hV
  exact wrRetV C0 hK hP hD hS dX6_set_29
set_option maxHeartbeats 4000000 in
set_option maxRecDepth 100000 in
theorem w_X6_set {p : Program} {l : Launch} {e : Env} {s : State} {m : MethodId} {below : List Frame} {meth : Method} {c : Code} {args : Array Value} (dC : Nat → ClassId) (dI : Nat → Nat → Nat) (cI cJ : ClassId) (hG g1 : Nat) (k : Int32) (v : Int64) (gv : Nat → Int64) {w0 : va_W} (C0 : Cx p s m meth c cX6_set 4 none wsX6_set RX6 args) (hK : va_K (dC, dI) vwCl [(cI, .int), (cJ, .long)] s) (hZ : Zs false (va_A w0 s.heap.size) s s.heap) (hk : vp_in k 24) {V : (Nat → Int64)} (hV : (F_X6_set k v gv ) = V) (ls : Array Slot) (hl : lv_has ls 4 [(0, .ref hG), (1, .int k), (2, .long v)]) {H : Heap} {locs : List Loc} (hP : va_P (dC, dI) vwCl [(hG, .inr (4, [.ref g1])), (g1, .inl (cJ, 24, .inr (.inl gv)))] H) (hD : va_D (va_A w0 s.heap.size) [(hG, .inr (4, [.ref g1])), (g1, .inl (cJ, 24, .inr (.inl gv)))]) (hS : va_S (va_A w0 s.heap.size) s.heap H locs) : W p l e rm_X6_set s m args below meth c H locs 0 0 (MQ below (QV (dC, dI) [(cI, .int), (cJ, .long)] w0 [(hG, .inr (4, [.ref g1])), (g1, .inl (cJ, 24, .inr (.inl V)))] s.heap.size) args s 0 0 (va_A w0 s.heap.size)) (F0 m 0 ls []) := by
  obtain ⟨hx, hb, hr, hlk, hml, hown, hts⟩ := id C0
  have hA : ∀ q : Nat, s.heap.size ≤ q → va_A w0 s.heap.size q := fun q h => Or.inr h
  refine lv_iload_n hx hb dX6_set_0 rfl (lv_at hl 1 rfl) ?_
  refine lv_bipush (v := (16 : Int32)) hx hb dX6_set_1 (by decide) ?_
  refine lv_icmp_eq (x := k) (y := (16 : Int32)) (tgt := 29) hx hb dX6_set_3 (by decide) (fun c1 => ?_) (fun c1 => ?_)
  · have e9 : (F_X6_set k v gv ) = gv := by rw [F_X6_set, if_pos c1]
    rw [e9] at hV
    subst hV
    exact wrRetV C0 hK hP hD hS dX6_set_29
  · refine lv_aload_n hx hb dX6_set_6 rfl (lv_at hl 0 rfl) ?_
    refine va_get (D := (dC, dI)) (ci := 4) (v := .ref g1) (C := RX6) (T := TX6) (N := 1) hx hb hts mi_X6_set_X6 hown hK hP 0 rfl rfl 0 (by decide) (hts (.fieldLink RX6 9 "ScoreboardCore$Registers" "values" "[J") mm_X6_set_f9) (fun _ h9 => h9) rfl dX6_set_7 ?_
    refine lv_iload_n hx hb dX6_set_10 rfl (lv_at hl 1 rfl) ?_
    refine lv_lload_n hx hb dX6_set_11 rfl (lv_at hl 2 rfl) ?_
    refine lv_iload_n hx hb dX6_set_12 rfl (lv_at hl 1 rfl) ?_
    refine lv_bipush (v := (8 : Int32)) hx hb dX6_set_13 (by decide) ?_
    refine lv_icmp_ge (x := k) (y := (8 : Int32)) (tgt := 24) hx hb dX6_set_15 (by decide) (fun c2 => ?_) (fun c2 => ?_)
    · refine lv_ldc2 (v := (262143 : Int64)) hx hb hown (hts _ mm_X6_set_k17) dX6_set_24 ?_
      have e9 : (F_X6_set k v gv ) = (F_X6_set_27 (262143 : Int64) v k gv) := by rw [F_X6_set, if_neg c1, if_pos c2]
      rw [e9] at hV
      exact j_X6_set_27 dC dI cI cJ hG g1 k v gv C0 hK hZ hk (262143 : Int64) v k gv (hk) hV ls (lv_sub hl [] rfl) hP hD hS
    · refine lv_ldc2 (v := (1152921504606846975 : Int64)) hx hb hown (hts _ mm_X6_set_k15) dX6_set_18 ?_
      refine lv_goto (tgt := 27) hx hb dX6_set_21 (by decide) ?_
      have e9 : (F_X6_set k v gv ) = (F_X6_set_27 (1152921504606846975 : Int64) v k gv) := by rw [F_X6_set, if_neg c1, if_neg c2]
      rw [e9] at hV
      exact j_X6_set_27 dC dI cI cJ hG g1 k v gv C0 hK hZ hk (1152921504606846975 : Int64) v k gv (hk) hV ls (lv_sub hl [] rfl) hP hD hS
theorem c_X6_set (l : Launch) (dC : Nat → ClassId) (dI : Nat → Nat → Nat) (cI cJ : ClassId) (hG g1 : Nat) (k : Int32) (v : Int64) (gv : Nat → Int64) (hk : vp_in k 24) : WrV false l yX6_set wsX6_set rm_X6_set (dC, dI) [(cI, .int), (cJ, .long)] [(hG, .inr (4, [.ref g1])), (g1, .inl (cJ, 24, .inr (.inl gv)))] [(hG, .inr (4, [.ref g1])), (g1, .inl (cJ, 24, .inr (.inl (F_X6_set k v gv ))))] [.ref hG, .int k, .long v] := by
  refine WrV.mk (cc := cX6_set) (nL := 4) (ret := none) [(0, .ref hG), (1, .int k), (2, .long v)] (by decide) rfl (Nat.le_of_ble_eq_true rfl) rfl ?_
  intro p e s m below meth c C0 hP hK hD hS hZ ls hl
  exact w_X6_set dC dI cI cJ hG g1 k v gv C0 hK hZ hk rfl ls hl hP hD hS
