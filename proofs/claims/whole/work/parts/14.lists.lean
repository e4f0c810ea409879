theorem LOk.add {S : Int32} {f : Nat → Int32} {k : Int32} (h : LOk S f) (hk : vp_in k 24) : LOk (F_X5_add k S f).1 (F_X5_add k S f).2 := by
  unfold F_X5_add
  split
  · exact h
  · split
    · exact h
    · rename_i h1 h2
      obtain ⟨⟨n, hn, rfl⟩, hf⟩ := h
      have h3 : n < 3 := by
        rcases Nat.lt_or_ge n 3 with q | q
        · exact q
        · exact absurd (show nI 3 ≤ nI n from nI_le q (by omega)) h2
      refine ⟨⟨n + 1, by omega, nI_1 n⟩, fun j hj => ?_⟩
      show vp_in (upd f (nI n).toNatClampNeg k j) 24
      by_cases e : j = (nI n).toNatClampNeg
      · rw [e, pk_us]; exact hk
      · rw [pk_un e]; exact hf j hj
theorem LOk.addX {S : Int32} {f : Nat → Int32} {k : Int32} (h : LOk S f) (hk : R8 k) : LOk (F_X5_addX k S f).1 (F_X5_addX k S f).2 := h.add hk.x
theorem LOk.addA {S : Int32} {f : Nat → Int32} {k : Int32} (h : LOk S f) (hk : R8 k) : LOk (F_X5_addA k S f).1 (F_X5_addA k S f).2 := h.add hk.a
theorem LOk.addB {S : Int32} {f : Nat → Int32} {k : Int32} (h : LOk S f) (hk : R8 k) : LOk (F_X5_addB k S f).1 (F_X5_addB k S f).2 := h.add hk.b

-- X1_listLogicNeeds
def F_X1_listLogicNeeds_20 (iop : Int32) (ik : Int32) (nS' : Int32) (nn' : Nat → Int32) : Int32 × (Nat → Int32) :=
  (if iop = (8 : Int32) then (nS', nn') else (((F_X5_addX ik nS' nn').1), ((F_X5_addX ik nS' nn').2)))
def F_X1_listLogicNeeds (iop : Int32) (ij : Int32) (ik : Int32) (nS : Int32) (nn : Nat → Int32) : Int32 × (Nat → Int32) :=
  (if iop = (12 : Int32) then (F_X1_listLogicNeeds_20 iop ik nS nn) else (F_X1_listLogicNeeds_20 iop ik ((F_X5_addX ij nS nn).1) ((F_X5_addX ij nS nn).2)))
abbrev rm_X1_listLogicNeeds : Room := { frames := 2, cells := 0, slots := 0, locals := 42 }
set_option maxRecDepth 20000 in
theorem mi_X1_listLogicNeeds_X1 : ∀ w ∈ wsX10, w ∈ wsX1_listLogicNeeds := by decide +kernel
set_option maxRecDepth 20000 in
theorem mm_X1_listLogicNeeds_f14 : Cond.fieldLink RX1 14 "ScoreboardCore$Instruction" "needs" "LScoreboardCore$RegisterList;" ∈ wsX1_listLogicNeeds := by decide +kernel
set_option maxRecDepth 20000 in
theorem mm_X1_listLogicNeeds_f25 : Cond.fieldLink RX1 25 "ScoreboardCore$Instruction" "op" "I" ∈ wsX1_listLogicNeeds := by decide +kernel
set_option maxRecDepth 20000 in
theorem mm_X1_listLogicNeeds_f31 : Cond.fieldLink RX1 31 "ScoreboardCore$Instruction" "j" "I" ∈ wsX1_listLogicNeeds := by decide +kernel
set_option maxRecDepth 20000 in
theorem mm_X1_listLogicNeeds_f34 : Cond.fieldLink RX1 34 "ScoreboardCore$Instruction" "k" "I" ∈ wsX1_listLogicNeeds := by decide +kernel
set_option maxRecDepth 20000 in
theorem mm_X1_listLogicNeeds_iX5 : Cond.initialized RX5 ∈ wsX1_listLogicNeeds := by decide +kernel
set_option maxRecDepth 20000 in
theorem mm_X1_listLogicNeeds_l71 : Cond.methodLink RX1 71 yX5_addX ∈ wsX1_listLogicNeeds := by decide +kernel
set_option maxRecDepth 20000 in
theorem mm_X1_listLogicNeeds_nX5_addX : Cond.instanceMethod yX5_addX ∈ wsX1_listLogicNeeds := by decide +kernel
set_option maxRecDepth 20000 in
theorem mm_X1_listLogicNeeds_sX5_addX : Cond.selects RX5 yX5_addX yX5_addX ∈ wsX1_listLogicNeeds := by decide +kernel
set_option maxHeartbeats 4000000 in
set_option maxRecDepth 100000 in
theorem j_X1_listLogicNeeds_20 {p : Program} {l : Launch} {e : Env} {s : State} {m : MethodId} {below : List Frame} {meth : Method} {c : Code} {args : Array Value} (dC : Nat → ClassId) (dI : Nat → Nat → Nat) (cI cJ : ClassId) (hI hN n1 hR : Nat) (iop : Int32) (ii : Int32) (ij : Int32) (ik : Int32) (ic : Int32) (ip : Int32) (iu : Int32) (nS : Int32) (nn : Nat → Int32) {w0 : va_W} (C0 : Cx p s m meth c cX1_listLogicNeeds 1 none wsX1_listLogicNeeds RX1 args) (hK : va_K (dC, dI) vwCl [(cI, .int), (cJ, .long)] s) (hZ : Zs false (va_A w0 s.heap.size) s s.heap) (hn : LOk nS nn) (hi : R8 ii) (hj : R8 ij) (hk : R8 ik) (nS' : Int32) (nn' : Nat → Int32) (hn' : LOk nS' nn') {V : Int32 × (Nat → Int32)} (hV : (F_X1_listLogicNeeds_20 iop ik nS' nn') = V) (ls : Array Slot) (hl : lv_has ls 1 [(0, .ref hI)]) {H : Heap} {locs : List Loc} (hP : va_P (dC, dI) vwCl [(hI, .inr (1, [.int iop, .int ii, .int ij, .int ik, .int ic, .int ip, .int iu, .ref hN, .ref hR])), (hN, .inr (3, [.ref n1, .int nS'])), (n1, .inl (cI, 3, .inl nn'))] H) (hD : va_D (va_A w0 s.heap.size) [(hI, .inr (1, [.int iop, .int ii, .int ij, .int ik, .int ic, .int ip, .int iu, .ref hN, .ref hR])), (hN, .inr (3, [.ref n1, .int nS'])), (n1, .inl (cI, 3, .inl nn'))]) (hS : va_S (va_A w0 s.heap.size) s.heap H locs) : W p l e rm_X1_listLogicNeeds s m args below meth c H locs 0 0 (MQ below (QV (dC, dI) [(cI, .int), (cJ, .long)] w0 [(hI, .inr (1, [.int iop, .int ii, .int ij, .int ik, .int ic, .int ip, .int iu, .ref hN, .ref hR])), (hN, .inr (3, [.ref n1, .int V.1])), (n1, .inl (cI, 3, .inl V.2))] s.heap.size) args s 0 0 (va_A w0 s.heap.size)) (F0 m 20 ls []) := by
  obtain ⟨hx, hb, hr, hlk, hml, hown, hts⟩ := id C0
  have hA : ∀ q : Nat, s.heap.size ≤ q → va_A w0 s.heap.size q := fun q h => Or.inr h
  refine lv_aload_n hx hb dX1_listLogicNeeds_20 rfl (lv_at hl 0 rfl) ?_
  refine va_get (D := (dC, dI)) (ci := 1) (v := .int iop) (C := RX1) (T := TX1) (N := 9) hx hb hts mi_X1_listLogicNeeds_X1 hown hK hP 0 rfl rfl 0 (by decide) (hts (.fieldLink RX1 25 "ScoreboardCore$Instruction" "op" "I") mm_X1_listLogicNeeds_f25) (fun _ h9 => h9) rfl dX1_listLogicNeeds_21 ?_
  refine lv_bipush (v := (8 : Int32)) hx hb dX1_listLogicNeeds_24 (by decide) ?_
  refine lv_icmp_eq (x := iop) (y := (8 : Int32)) (tgt := 40) hx hb dX1_listLogicNeeds_26 (by decide) (fun c1 => ?_) (fun c1 => ?_)
  · have e9 : (F_X1_listLogicNeeds_20 iop ik nS' nn') = (nS', nn') := by rw [F_X1_listLogicNeeds_20, if_pos c1]
    rw [e9] at hV
    subst hV
    exact wrRetV C0 hK hP hD hS dX1_listLogicNeeds_40
  · refine lv_aload_n hx hb dX1_listLogicNeeds_29 rfl (lv_at hl 0 rfl) ?_
    refine va_get (D := (dC, dI)) (ci := 1) (v := .ref hN) (C := RX1) (T := TX1) (N := 9) hx hb hts mi_X1_listLogicNeeds_X1 hown hK hP 0 rfl rfl 7 (by decide) (hts (.fieldLink RX1 14 "ScoreboardCore$Instruction" "needs" "LScoreboardCore$RegisterList;") mm_X1_listLogicNeeds_f14) (fun _ h9 => h9) rfl dX1_listLogicNeeds_30 ?_
    refine lv_aload_n hx hb dX1_listLogicNeeds_33 rfl (lv_at hl 0 rfl) ?_
    refine va_get (D := (dC, dI)) (ci := 1) (v := .int ik) (C := RX1) (T := TX1) (N := 9) hx hb hts mi_X1_listLogicNeeds_X1 hown hK hP 0 rfl rfl 3 (by decide) (hts (.fieldLink RX1 34 "ScoreboardCore$Instruction" "k" "I") mm_X1_listLogicNeeds_f34) (fun _ h9 => h9) rfl dX1_listLogicNeeds_34 ?_
    refine wrVv (As := [.int ik]) (rest := []) (bytes := cX5_addX) (maxL := 2) (rty := none) (n := 1) (ci := 3) C0 (c_X5_addX l dC dI cI cJ hN n1 ik nS' nn' (by first | exact hn' | exact hn | exact hn'.addX hi | exact hn'.addX hj | exact hn'.addX hk | exact hn'.addA hi | exact hn'.addA hj | exact hn'.addB hi | exact hn'.addB hj | exact hn'.addB hk | exact hn.addX hi | exact hn.addX hj | exact hn.addX hk | exact hn.addA hi | exact hn.addA hj | exact hn.addB hi | exact hn.addB hj | exact hn.addB hk)) ⟨rfl, rfl, rfl, by decide +kernel, by decide, by decide⟩ ggX1_listLogicNeeds_X5_addX mm_X1_listLogicNeeds_iX5 mm_X1_listLogicNeeds_l71 mm_X1_listLogicNeeds_nX5_addX mm_X1_listLogicNeeds_sX5_addX rfl rfl hP hD hK hS hA (Zs.no _ _ _) [1, 2] [0] [0, 1, 2] [(hI, .inr (1, [.int iop, .int ii, .int ij, .int ik, .int ic, .int ip, .int iu, .ref hN, .ref hR]))] [(hI, .inr (1, [.int iop, .int ii, .int ij, .int ik, .int ic, .int ip, .int iu, .ref hN, .ref hR])), (hN, .inr (3, [.ref n1, .int ((F_X5_addX ik nS' nn').1)])), (n1, .inl (cI, 3, .inl ((F_X5_addX ik nS' nn').2)))] rfl (by decide) (hP.sub (ws' := [(hN, .inr (3, [.ref n1, .int nS'])), (n1, .inl (cI, 3, .inl nn'))]) [1, 2] rfl) rfl (by decide) (by decide) (by decide) rfl hl.1 rfl rfl (Nat.le_of_ble_eq_true rfl) dX1_listLogicNeeds_37 ⟨Nat.zero_le _, Nat.zero_le _⟩ (fun H locs hP hD hS => ?_)
    have e9 : (F_X1_listLogicNeeds_20 iop ik nS' nn') = (((F_X5_addX ik nS' nn').1), ((F_X5_addX ik nS' nn').2)) := by rw [F_X1_listLogicNeeds_20, if_neg c1]
    rw [e9] at hV
    subst hV
    exact wrRetV C0 hK hP hD hS dX1_listLogicNeeds_40
set_option maxHeartbeats 4000000 in
set_option maxRecDepth 100000 in
theorem w_X1_listLogicNeeds {p : Program} {l : Launch} {e : Env} {s : State} {m : MethodId} {below : List Frame} {meth : Method} {c : Code} {args : Array Value} (dC : Nat → ClassId) (dI : Nat → Nat → Nat) (cI cJ : ClassId) (hI hN n1 hR : Nat) (iop : Int32) (ii : Int32) (ij : Int32) (ik : Int32) (ic : Int32) (ip : Int32) (iu : Int32) (nS : Int32) (nn : Nat → Int32) {w0 : va_W} (C0 : Cx p s m meth c cX1_listLogicNeeds 1 none wsX1_listLogicNeeds RX1 args) (hK : va_K (dC, dI) vwCl [(cI, .int), (cJ, .long)] s) (hZ : Zs false (va_A w0 s.heap.size) s s.heap) (hn : LOk nS nn) (hi : R8 ii) (hj : R8 ij) (hk : R8 ik) {V : Int32 × (Nat → Int32)} (hV : (F_X1_listLogicNeeds iop ij ik nS nn ) = V) (ls : Array Slot) (hl : lv_has ls 1 [(0, .ref hI)]) {H : Heap} {locs : List Loc} (hP : va_P (dC, dI) vwCl [(hI, .inr (1, [.int iop, .int ii, .int ij, .int ik, .int ic, .int ip, .int iu, .ref hN, .ref hR])), (hN, .inr (3, [.ref n1, .int nS])), (n1, .inl (cI, 3, .inl nn))] H) (hD : va_D (va_A w0 s.heap.size) [(hI, .inr (1, [.int iop, .int ii, .int ij, .int ik, .int ic, .int ip, .int iu, .ref hN, .ref hR])), (hN, .inr (3, [.ref n1, .int nS])), (n1, .inl (cI, 3, .inl nn))]) (hS : va_S (va_A w0 s.heap.size) s.heap H locs) : W p l e rm_X1_listLogicNeeds s m args below meth c H locs 0 0 (MQ below (QV (dC, dI) [(cI, .int), (cJ, .long)] w0 [(hI, .inr (1, [.int iop, .int ii, .int ij, .int ik, .int ic, .int ip, .int iu, .ref hN, .ref hR])), (hN, .inr (3, [.ref n1, .int V.1])), (n1, .inl (cI, 3, .inl V.2))] s.heap.size) args s 0 0 (va_A w0 s.heap.size)) (F0 m 0 ls []) := by
  obtain ⟨hx, hb, hr, hlk, hml, hown, hts⟩ := id C0
  have hA : ∀ q : Nat, s.heap.size ≤ q → va_A w0 s.heap.size q := fun q h => Or.inr h
  refine lv_aload_n hx hb dX1_listLogicNeeds_0 rfl (lv_at hl 0 rfl) ?_
  refine va_get (D := (dC, dI)) (ci := 1) (v := .int iop) (C := RX1) (T := TX1) (N := 9) hx hb hts mi_X1_listLogicNeeds_X1 hown hK hP 0 rfl rfl 0 (by decide) (hts (.fieldLink RX1 25 "ScoreboardCore$Instruction" "op" "I") mm_X1_listLogicNeeds_f25) (fun _ h9 => h9) rfl dX1_listLogicNeeds_1 ?_
  refine lv_bipush (v := (12 : Int32)) hx hb dX1_listLogicNeeds_4 (by decide) ?_
  refine lv_icmp_eq (x := iop) (y := (12 : Int32)) (tgt := 20) hx hb dX1_listLogicNeeds_6 (by decide) (fun c1 => ?_) (fun c1 => ?_)
  · have e9 : (F_X1_listLogicNeeds iop ij ik nS nn ) = (F_X1_listLogicNeeds_20 iop ik nS nn) := by rw [F_X1_listLogicNeeds, if_pos c1]
    rw [e9] at hV
    exact j_X1_listLogicNeeds_20 dC dI cI cJ hI hN n1 hR iop ii ij ik ic ip iu nS nn C0 hK hZ hn hi hj hk nS nn (by first | exact hn' | exact hn | exact hn'.addX hi | exact hn'.addX hj | exact hn'.addX hk | exact hn'.addA hi | exact hn'.addA hj | exact hn'.addB hi | exact hn'.addB hj | exact hn'.addB hk | exact hn.addX hi | exact hn.addX hj | exact hn.addX hk | exact hn.addA hi | exact hn.addA hj | exact hn.addB hi | exact hn.addB hj | exact hn.addB hk) hV ls (lv_sub hl [0] rfl) hP hD hS
  · refine lv_aload_n hx hb dX1_listLogicNeeds_9 rfl (lv_at hl 0 rfl) ?_
    refine va_get (D := (dC, dI)) (ci := 1) (v := .ref hN) (C := RX1) (T := TX1) (N := 9) hx hb hts mi_X1_listLogicNeeds_X1 hown hK hP 0 rfl rfl 7 (by decide) (hts (.fieldLink RX1 14 "ScoreboardCore$Instruction" "needs" "LScoreboardCore$RegisterList;") mm_X1_listLogicNeeds_f14) (fun _ h9 => h9) rfl dX1_listLogicNeeds_10 ?_
    refine lv_aload_n hx hb dX1_listLogicNeeds_13 rfl (lv_at hl 0 rfl) ?_
    refine va_get (D := (dC, dI)) (ci := 1) (v := .int ij) (C := RX1) (T := TX1) (N := 9) hx hb hts mi_X1_listLogicNeeds_X1 hown hK hP 0 rfl rfl 2 (by decide) (hts (.fieldLink RX1 31 "ScoreboardCore$Instruction" "j" "I") mm_X1_listLogicNeeds_f31) (fun _ h9 => h9) rfl dX1_listLogicNeeds_14 ?_
    refine wrVv (As := [.int ij]) (rest := []) (bytes := cX5_addX) (maxL := 2) (rty := none) (n := 1) (ci := 3) C0 (c_X5_addX l dC dI cI cJ hN n1 ij nS nn (by first | exact hn' | exact hn | exact hn'.addX hi | exact hn'.addX hj | exact hn'.addX hk | exact hn'.addA hi | exact hn'.addA hj | exact hn'.addB hi | exact hn'.addB hj | exact hn'.addB hk | exact hn.addX hi | exact hn.addX hj | exact hn.addX hk | exact hn.addA hi | exact hn.addA hj | exact hn.addB hi | exact hn.addB hj | exact hn.addB hk)) ⟨rfl, rfl, rfl, by decide +kernel, by decide, by decide⟩ ggX1_listLogicNeeds_X5_addX mm_X1_listLogicNeeds_iX5 mm_X1_listLogicNeeds_l71 mm_X1_listLogicNeeds_nX5_addX mm_X1_listLogicNeeds_sX5_addX rfl rfl hP hD hK hS hA (Zs.no _ _ _) [1, 2] [0] [0, 1, 2] [(hI, .inr (1, [.int iop, .int ii, .int ij, .int ik, .int ic, .int ip, .int iu, .ref hN, .ref hR]))] [(hI, .inr (1, [.int iop, .int ii, .int ij, .int ik, .int ic, .int ip, .int iu, .ref hN, .ref hR])), (hN, .inr (3, [.ref n1, .int ((F_X5_addX ij nS nn).1)])), (n1, .inl (cI, 3, .inl ((F_X5_addX ij nS nn).2)))] rfl (by decide) (hP.sub (ws' := [(hN, .inr (3, [.ref n1, .int nS])), (n1, .inl (cI, 3, .inl nn))]) [1, 2] rfl) rfl (by decide) (by decide) (by decide) rfl hl.1 rfl rfl (Nat.le_of_ble_eq_true rfl) dX1_listLogicNeeds_17 ⟨Nat.zero_le _, Nat.zero_le _⟩ (fun H locs hP hD hS => ?_)
    have e9 : (F_X1_listLogicNeeds iop ij ik nS nn ) = (F_X1_listLogicNeeds_20 iop ik ((F_X5_addX ij nS nn).1) ((F_X5_addX ij nS nn).2)) := by rw [F_X1_listLogicNeeds, if_neg c1]
    rw [e9] at hV
    exact j_X1_listLogicNeeds_20 dC dI cI cJ hI hN n1 hR iop ii ij ik ic ip iu nS nn C0 hK hZ hn hi hj hk ((F_X5_addX ij nS nn).1) ((F_X5_addX ij nS nn).2) (by first | exact hn' | exact hn | exact hn'.addX hi | exact hn'.addX hj | exact hn'.addX hk | exact hn'.addA hi | exact hn'.addA hj | exact hn'.addB hi | exact hn'.addB hj | exact hn'.addB hk | exact hn.addX hi | exact hn.addX hj | exact hn.addX hk | exact hn.addA hi | exact hn.addA hj | exact hn.addB hi | exact hn.addB hj | exact hn.addB hk) hV ls (lv_sub hl [0] rfl) hP hD hS
theorem c_X1_listLogicNeeds (l : Launch) (dC : Nat → ClassId) (dI : Nat → Nat → Nat) (cI cJ : ClassId) (hI hN n1 hR : Nat) (iop : Int32) (ii : Int32) (ij : Int32) (ik : Int32) (ic : Int32) (ip : Int32) (iu : Int32) (nS : Int32) (nn : Nat → Int32) (hn : LOk nS nn) (hi : R8 ii) (hj : R8 ij) (hk : R8 ik) : WrV false l yX1_listLogicNeeds wsX1_listLogicNeeds rm_X1_listLogicNeeds (dC, dI) [(cI, .int), (cJ, .long)] [(hI, .inr (1, [.int iop, .int ii, .int ij, .int ik, .int ic, .int ip, .int iu, .ref hN, .ref hR])), (hN, .inr (3, [.ref n1, .int nS])), (n1, .inl (cI, 3, .inl nn))] [(hI, .inr (1, [.int iop, .int ii, .int ij, .int ik, .int ic, .int ip, .int iu, .ref hN, .ref hR])), (hN, .inr (3, [.ref n1, .int ((F_X1_listLogicNeeds iop ij ik nS nn ).1)])), (n1, .inl (cI, 3, .inl ((F_X1_listLogicNeeds iop ij ik nS nn ).2)))] [.ref hI] := by
  refine WrV.mk (cc := cX1_listLogicNeeds) (nL := 1) (ret := none) [(0, .ref hI)] (by decide) rfl (Nat.le_of_ble_eq_true rfl) rfl ?_
  intro p e s m below meth c C0 hP hK hD hS hZ ls hl
  exact w_X1_listLogicNeeds dC dI cI cJ hI hN n1 hR iop ii ij ik ic ip iu nS nn C0 hK hZ hn hi hj hk rfl ls hl hP hD hS

-- X1_listShiftNeeds
def F_X1_listShiftNeeds_18 (ii : Int32) (nS' : Int32) (nn' : Nat → Int32) : Int32 × (Nat → Int32) :=
  (((F_X5_addX ii nS' nn').1), ((F_X5_addX ii nS' nn').2))
def F_X1_listShiftNeeds_50 (ij : Int32) (ik : Int32) (nS' : Int32) (nn' : Nat → Int32) : Int32 × (Nat → Int32) :=
  (((F_X5_addX ik ((F_X5_addB ij nS' nn').1) ((F_X5_addB ij nS' nn').2)).1), ((F_X5_addX ik ((F_X5_addB ij nS' nn').1) ((F_X5_addB ij nS' nn').2)).2))
def F_X1_listShiftNeeds (iop : Int32) (ii : Int32) (ij : Int32) (ik : Int32) (nS : Int32) (nn : Nat → Int32) : Int32 × (Nat → Int32) :=
  (if iop = (16 : Int32) then (F_X1_listShiftNeeds_18 ii nS nn) else (if iop = (17 : Int32) then (F_X1_listShiftNeeds_18 ii nS nn) else (if iop = (18 : Int32) then (F_X1_listShiftNeeds_50 ij ik nS nn) else (if iop = (19 : Int32) then (F_X1_listShiftNeeds_50 ij ik nS nn) else (nS, nn)))))
abbrev rm_X1_listShiftNeeds : Room := { frames := 2, cells := 0, slots := 0, locals := 42 }
set_option maxRecDepth 20000 in
theorem mi_X1_listShiftNeeds_X1 : ∀ w ∈ wsX10, w ∈ wsX1_listShiftNeeds := by decide +kernel
set_option maxRecDepth 20000 in
theorem mm_X1_listShiftNeeds_f14 : Cond.fieldLink RX1 14 "ScoreboardCore$Instruction" "needs" "LScoreboardCore$RegisterList;" ∈ wsX1_listShiftNeeds := by decide +kernel
set_option maxRecDepth 20000 in
theorem mm_X1_listShiftNeeds_f25 : Cond.fieldLink RX1 25 "ScoreboardCore$Instruction" "op" "I" ∈ wsX1_listShiftNeeds := by decide +kernel
set_option maxRecDepth 20000 in
theorem mm_X1_listShiftNeeds_f28 : Cond.fieldLink RX1 28 "ScoreboardCore$Instruction" "i" "I" ∈ wsX1_listShiftNeeds := by decide +kernel
set_option maxRecDepth 20000 in
theorem mm_X1_listShiftNeeds_f31 : Cond.fieldLink RX1 31 "ScoreboardCore$Instruction" "j" "I" ∈ wsX1_listShiftNeeds := by decide +kernel
set_option maxRecDepth 20000 in
theorem mm_X1_listShiftNeeds_f34 : Cond.fieldLink RX1 34 "ScoreboardCore$Instruction" "k" "I" ∈ wsX1_listShiftNeeds := by decide +kernel
set_option maxRecDepth 20000 in
theorem mm_X1_listShiftNeeds_iX5 : Cond.initialized RX5 ∈ wsX1_listShiftNeeds := by decide +kernel
set_option maxRecDepth 20000 in
theorem mm_X1_listShiftNeeds_l71 : Cond.methodLink RX1 71 yX5_addX ∈ wsX1_listShiftNeeds := by decide +kernel
set_option maxRecDepth 20000 in
theorem mm_X1_listShiftNeeds_l81 : Cond.methodLink RX1 81 yX5_addB ∈ wsX1_listShiftNeeds := by decide +kernel
set_option maxRecDepth 20000 in
theorem mm_X1_listShiftNeeds_nX5_addB : Cond.instanceMethod yX5_addB ∈ wsX1_listShiftNeeds := by decide +kernel
set_option maxRecDepth 20000 in
theorem mm_X1_listShiftNeeds_nX5_addX : Cond.instanceMethod yX5_addX ∈ wsX1_listShiftNeeds := by decide +kernel
set_option maxRecDepth 20000 in
theorem mm_X1_listShiftNeeds_sX5_addB : Cond.selects RX5 yX5_addB yX5_addB ∈ wsX1_listShiftNeeds := by decide +kernel
set_option maxRecDepth 20000 in
theorem mm_X1_listShiftNeeds_sX5_addX : Cond.selects RX5 yX5_addX yX5_addX ∈ wsX1_listShiftNeeds := by decide +kernel
set_option maxHeartbeats 4000000 in
set_option maxRecDepth 100000 in
theorem j_X1_listShiftNeeds_18 {p : Program} {l : Launch} {e : Env} {s : State} {m : MethodId} {below : List Frame} {meth : Method} {c : Code} {args : Array Value} (dC : Nat → ClassId) (dI : Nat → Nat → Nat) (cI cJ : ClassId) (hI hN n1 hR : Nat) (iop : Int32) (ii : Int32) (ij : Int32) (ik : Int32) (ic : Int32) (ip : Int32) (iu : Int32) (nS : Int32) (nn : Nat → Int32) {w0 : va_W} (C0 : Cx p s m meth c cX1_listShiftNeeds 1 none wsX1_listShiftNeeds RX1 args) (hK : va_K (dC, dI) vwCl [(cI, .int), (cJ, .long)] s) (hZ : Zs false (va_A w0 s.heap.size) s s.heap) (hn : LOk nS nn) (hi : R8 ii) (hj : R8 ij) (hk : R8 ik) (nS' : Int32) (nn' : Nat → Int32) (hn' : LOk nS' nn') {V : Int32 × (Nat → Int32)} (hV : (F_X1_listShiftNeeds_18 ii nS' nn') = V) (ls : Array Slot) (hl : lv_has ls 1 [(0, .ref hI)]) {H : Heap} {locs : List Loc} (hP : va_P (dC, dI) vwCl [(hI, .inr (1, [.int iop, .int ii, .int ij, .int ik, .int ic, .int ip, .int iu, .ref hN, .ref hR])), (hN, .inr (3, [.ref n1, .int nS'])), (n1, .inl (cI, 3, .inl nn'))] H) (hD : va_D (va_A w0 s.heap.size) [(hI, .inr (1, [.int iop, .int ii, .int ij, .int ik, .int ic, .int ip, .int iu, .ref hN, .ref hR])), (hN, .inr (3, [.ref n1, .int nS'])), (n1, .inl (cI, 3, .inl nn'))]) (hS : va_S (va_A w0 s.heap.size) s.heap H locs) : W p l e rm_X1_listShiftNeeds s m args below meth c H locs 0 0 (MQ below (QV (dC, dI) [(cI, .int), (cJ, .long)] w0 [(hI, .inr (1, [.int iop, .int ii, .int ij, .int ik, .int ic, .int ip, .int iu, .ref hN, .ref hR])), (hN, .inr (3, [.ref n1, .int V.1])), (n1, .inl (cI, 3, .inl V.2))] s.heap.size) args s 0 0 (va_A w0 s.heap.size)) (F0 m 18 ls []) := by
  obtain ⟨hx, hb, hr, hlk, hml, hown, hts⟩ := id C0
  have hA : ∀ q : Nat, s.heap.size ≤ q → va_A w0 s.heap.size q := fun q h => Or.inr h
  refine lv_aload_n hx hb dX1_listShiftNeeds_18 rfl (lv_at hl 0 rfl) ?_
  refine va_get (D := (dC, dI)) (ci := 1) (v := .ref hN) (C := RX1) (T := TX1) (N := 9) hx hb hts mi_X1_listShiftNeeds_X1 hown hK hP 0 rfl rfl 7 (by decide) (hts (.fieldLink RX1 14 "ScoreboardCore$Instruction" "needs" "LScoreboardCore$RegisterList;") mm_X1_listShiftNeeds_f14) (fun _ h9 => h9) rfl dX1_listShiftNeeds_19 ?_
  refine lv_aload_n hx hb dX1_listShiftNeeds_22 rfl (lv_at hl 0 rfl) ?_
  refine va_get (D := (dC, dI)) (ci := 1) (v := .int ii) (C := RX1) (T := TX1) (N := 9) hx hb hts mi_X1_listShiftNeeds_X1 hown hK hP 0 rfl rfl 1 (by decide) (hts (.fieldLink RX1 28 "ScoreboardCore$Instruction" "i" "I") mm_X1_listShiftNeeds_f28) (fun _ h9 => h9) rfl dX1_listShiftNeeds_23 ?_
  refine wrVv (As := [.int ii]) (rest := []) (bytes := cX5_addX) (maxL := 2) (rty := none) (n := 1) (ci := 3) C0 (c_X5_addX l dC dI cI cJ hN n1 ii nS' nn' (by first | exact hn' | exact hn | exact hn'.addX hi | exact hn'.addX hj | exact hn'.addX hk | exact hn'.addA hi | exact hn'.addA hj | exact hn'.addB hi | exact hn'.addB hj | exact hn'.addB hk | exact hn.addX hi | exact hn.addX hj | exact hn.addX hk | exact hn.addA hi | exact hn.addA hj | exact hn.addB hi | exact hn.addB hj | exact hn.addB hk)) ⟨rfl, rfl, rfl, by decide +kernel, by decide, by decide⟩ ggX1_listShiftNeeds_X5_addX mm_X1_listShiftNeeds_iX5 mm_X1_listShiftNeeds_l71 mm_X1_listShiftNeeds_nX5_addX mm_X1_listShiftNeeds_sX5_addX rfl rfl hP hD hK hS hA (Zs.no _ _ _) [1, 2] [0] [0, 1, 2] [(hI, .inr (1, [.int iop, .int ii, .int ij, .int ik, .int ic, .int ip, .int iu, .ref hN, .ref hR]))] [(hI, .inr (1, [.int iop, .int ii, .int ij, .int ik, .int ic, .int ip, .int iu, .ref hN, .ref hR])), (hN, .inr (3, [.ref n1, .int ((F_X5_addX ii nS' nn').1)])), (n1, .inl (cI, 3, .inl ((F_X5_addX ii nS' nn').2)))] rfl (by decide) (hP.sub (ws' := [(hN, .inr (3, [.ref n1, .int nS'])), (n1, .inl (cI, 3, .inl nn'))]) [1, 2] rfl) rfl (by decide) (by decide) (by decide) rfl hl.1 rfl rfl (Nat.le_of_ble_eq_true rfl) dX1_listShiftNeeds_26 ⟨Nat.zero_le _, Nat.zero_le _⟩ (fun H locs hP hD hS => ?_)
  refine lv_goto (tgt := 72) hx hb dX1_listShiftNeeds_29 (by decide) ?_
  have e9 : (F_X1_listShiftNeeds_18 ii nS' nn') = (((F_X5_addX ii nS' nn').1), ((F_X5_addX ii nS' nn').2)) := by rw [F_X1_listShiftNeeds_18]
  rw [e9] at hV
  subst hV
  exact wrRetV C0 hK hP hD hS dX1_listShiftNeeds_72
set_option maxHeartbeats 4000000 in
set_option maxRecDepth 100000 in
theorem j_X1_listShiftNeeds_50 {p : Program} {l : Launch} {e : Env} {s : State} {m : MethodId} {below : List Frame} {meth : Method} {c : Code} {args : Array Value} (dC : Nat → ClassId) (dI : Nat → Nat → Nat) (cI cJ : ClassId) (hI hN n1 hR : Nat) (iop : Int32) (ii : Int32) (ij : Int32) (ik : Int32) (ic : Int32) (ip : Int32) (iu : Int32) (nS : Int32) (nn : Nat → Int32) {w0 : va_W} (C0 : Cx p s m meth c cX1_listShiftNeeds 1 none wsX1_listShiftNeeds RX1 args) (hK : va_K (dC, dI) vwCl [(cI, .int), (cJ, .long)] s) (hZ : Zs false (va_A w0 s.heap.size) s s.heap) (hn : LOk nS nn) (hi : R8 ii) (hj : R8 ij) (hk : R8 ik) (nS' : Int32) (nn' : Nat → Int32) (hn' : LOk nS' nn') {V : Int32 × (Nat → Int32)} (hV : (F_X1_listShiftNeeds_50 ij ik nS' nn') = V) (ls : Array Slot) (hl : lv_has ls 1 [(0, .ref hI)]) {H : Heap} {locs : List Loc} (hP : va_P (dC, dI) vwCl [(hI, .inr (1, [.int iop, .int ii, .int ij, .int ik, .int ic, .int ip, .int iu, .ref hN, .ref hR])), (hN, .inr (3, [.ref n1, .int nS'])), (n1, .inl (cI, 3, .inl nn'))] H) (hD : va_D (va_A w0 s.heap.size) [(hI, .inr (1, [.int iop, .int ii, .int ij, .int ik, .int ic, .int ip, .int iu, .ref hN, .ref hR])), (hN, .inr (3, [.ref n1, .int nS'])), (n1, .inl (cI, 3, .inl nn'))]) (hS : va_S (va_A w0 s.heap.size) s.heap H locs) : W p l e rm_X1_listShiftNeeds s m args below meth c H locs 0 0 (MQ below (QV (dC, dI) [(cI, .int), (cJ, .long)] w0 [(hI, .inr (1, [.int iop, .int ii, .int ij, .int ik, .int ic, .int ip, .int iu, .ref hN, .ref hR])), (hN, .inr (3, [.ref n1, .int V.1])), (n1, .inl (cI, 3, .inl V.2))] s.heap.size) args s 0 0 (va_A w0 s.heap.size)) (F0 m 50 ls []) := by
  obtain ⟨hx, hb, hr, hlk, hml, hown, hts⟩ := id C0
  have hA : ∀ q : Nat, s.heap.size ≤ q → va_A w0 s.heap.size q := fun q h => Or.inr h
  refine lv_aload_n hx hb dX1_listShiftNeeds_50 rfl (lv_at hl 0 rfl) ?_
  refine va_get (D := (dC, dI)) (ci := 1) (v := .ref hN) (C := RX1) (T := TX1) (N := 9) hx hb hts mi_X1_listShiftNeeds_X1 hown hK hP 0 rfl rfl 7 (by decide) (hts (.fieldLink RX1 14 "ScoreboardCore$Instruction" "needs" "LScoreboardCore$RegisterList;") mm_X1_listShiftNeeds_f14) (fun _ h9 => h9) rfl dX1_listShiftNeeds_51 ?_
  refine lv_aload_n hx hb dX1_listShiftNeeds_54 rfl (lv_at hl 0 rfl) ?_
  refine va_get (D := (dC, dI)) (ci := 1) (v := .int ij) (C := RX1) (T := TX1) (N := 9) hx hb hts mi_X1_listShiftNeeds_X1 hown hK hP 0 rfl rfl 2 (by decide) (hts (.fieldLink RX1 31 "ScoreboardCore$Instruction" "j" "I") mm_X1_listShiftNeeds_f31) (fun _ h9 => h9) rfl dX1_listShiftNeeds_55 ?_
  refine wrVv (As := [.int ij]) (rest := []) (bytes := cX5_addB) (maxL := 2) (rty := none) (n := 1) (ci := 3) C0 (c_X5_addB l dC dI cI cJ hN n1 ij nS' nn' (by first | exact hn' | exact hn | exact hn'.addX hi | exact hn'.addX hj | exact hn'.addX hk | exact hn'.addA hi | exact hn'.addA hj | exact hn'.addB hi | exact hn'.addB hj | exact hn'.addB hk | exact hn.addX hi | exact hn.addX hj | exact hn.addX hk | exact hn.addA hi | exact hn.addA hj | exact hn.addB hi | exact hn.addB hj | exact hn.addB hk)) ⟨rfl, rfl, rfl, by decide +kernel, by decide, by decide⟩ ggX1_listShiftNeeds_X5_addB mm_X1_listShiftNeeds_iX5 mm_X1_listShiftNeeds_l81 mm_X1_listShiftNeeds_nX5_addB mm_X1_listShiftNeeds_sX5_addB rfl rfl hP hD hK hS hA (Zs.no _ _ _) [1, 2] [0] [0, 1, 2] [(hI, .inr (1, [.int iop, .int ii, .int ij, .int ik, .int ic, .int ip, .int iu, .ref hN, .ref hR]))] [(hI, .inr (1, [.int iop, .int ii, .int ij, .int ik, .int ic, .int ip, .int iu, .ref hN, .ref hR])), (hN, .inr (3, [.ref n1, .int ((F_X5_addB ij nS' nn').1)])), (n1, .inl (cI, 3, .inl ((F_X5_addB ij nS' nn').2)))] rfl (by decide) (hP.sub (ws' := [(hN, .inr (3, [.ref n1, .int nS'])), (n1, .inl (cI, 3, .inl nn'))]) [1, 2] rfl) rfl (by decide) (by decide) (by decide) rfl hl.1 rfl rfl (Nat.le_of_ble_eq_true rfl) dX1_listShiftNeeds_58 ⟨Nat.zero_le _, Nat.zero_le _⟩ (fun H locs hP hD hS => ?_)
  refine lv_aload_n hx hb dX1_listShiftNeeds_61 rfl (lv_at hl 0 rfl) ?_
  refine va_get (D := (dC, dI)) (ci := 1) (v := .ref hN) (C := RX1) (T := TX1) (N := 9) hx hb hts mi_X1_listShiftNeeds_X1 hown hK hP 0 rfl rfl 7 (by decide) (hts (.fieldLink RX1 14 "ScoreboardCore$Instruction" "needs" "LScoreboardCore$RegisterList;") mm_X1_listShiftNeeds_f14) (fun _ h9 => h9) rfl dX1_listShiftNeeds_62 ?_
  refine lv_aload_n hx hb dX1_listShiftNeeds_65 rfl (lv_at hl 0 rfl) ?_
  refine va_get (D := (dC, dI)) (ci := 1) (v := .int ik) (C := RX1) (T := TX1) (N := 9) hx hb hts mi_X1_listShiftNeeds_X1 hown hK hP 0 rfl rfl 3 (by decide) (hts (.fieldLink RX1 34 "ScoreboardCore$Instruction" "k" "I") mm_X1_listShiftNeeds_f34) (fun _ h9 => h9) rfl dX1_listShiftNeeds_66 ?_
  refine wrVv (As := [.int ik]) (rest := []) (bytes := cX5_addX) (maxL := 2) (rty := none) (n := 1) (ci := 3) C0 (c_X5_addX l dC dI cI cJ hN n1 ik ((F_X5_addB ij nS' nn').1) ((F_X5_addB ij nS' nn').2) (by first | exact hn' | exact hn | exact hn'.addX hi | exact hn'.addX hj | exact hn'.addX hk | exact hn'.addA hi | exact hn'.addA hj | exact hn'.addB hi | exact hn'.addB hj | exact hn'.addB hk | exact hn.addX hi | exact hn.addX hj | exact hn.addX hk | exact hn.addA hi | exact hn.addA hj | exact hn.addB hi | exact hn.addB hj | exact hn.addB hk)) ⟨rfl, rfl, rfl, by decide +kernel, by decide, by decide⟩ ggX1_listShiftNeeds_X5_addX mm_X1_listShiftNeeds_iX5 mm_X1_listShiftNeeds_l71 mm_X1_listShiftNeeds_nX5_addX mm_X1_listShiftNeeds_sX5_addX rfl rfl hP hD hK hS hA (Zs.no _ _ _) [1, 2] [0] [0, 1, 2] [(hI, .inr (1, [.int iop, .int ii, .int ij, .int ik, .int ic, .int ip, .int iu, .ref hN, .ref hR]))] [(hI, .inr (1, [.int iop, .int ii, .int ij, .int ik, .int ic, .int ip, .int iu, .ref hN, .ref hR])), (hN, .inr (3, [.ref n1, .int ((F_X5_addX ik ((F_X5_addB ij nS' nn').1) ((F_X5_addB ij nS' nn').2)).1)])), (n1, .inl (cI, 3, .inl ((F_X5_addX ik ((F_X5_addB ij nS' nn').1) ((F_X5_addB ij nS' nn').2)).2)))] rfl (by decide) (hP.sub (ws' := [(hN, .inr (3, [.ref n1, .int ((F_X5_addB ij nS' nn').1)])), (n1, .inl (cI, 3, .inl ((F_X5_addB ij nS' nn').2)))]) [1, 2] rfl) rfl (by decide) (by decide) (by decide) rfl hl.1 rfl rfl (Nat.le_of_ble_eq_true rfl) dX1_listShiftNeeds_69 ⟨Nat.zero_le _, Nat.zero_le _⟩ (fun H locs hP hD hS => ?_)
  have e9 : (F_X1_listShiftNeeds_50 ij ik nS' nn') = (((F_X5_addX ik ((F_X5_addB ij nS' nn').1) ((F_X5_addB ij nS' nn').2)).1), ((F_X5_addX ik ((F_X5_addB ij nS' nn').1) ((F_X5_addB ij nS' nn').2)).2)) := by rw [F_X1_listShiftNeeds_50]
  rw [e9] at hV
  subst hV
  exact wrRetV C0 hK hP hD hS dX1_listShiftNeeds_72
set_option maxHeartbeats 4000000 in
set_option maxRecDepth 100000 in
theorem w_X1_listShiftNeeds {p : Program} {l : Launch} {e : Env} {s : State} {m : MethodId} {below : List Frame} {meth : Method} {c : Code} {args : Array Value} (dC : Nat → ClassId) (dI : Nat → Nat → Nat) (cI cJ : ClassId) (hI hN n1 hR : Nat) (iop : Int32) (ii : Int32) (ij : Int32) (ik : Int32) (ic : Int32) (ip : Int32) (iu : Int32) (nS : Int32) (nn : Nat → Int32) {w0 : va_W} (C0 : Cx p s m meth c cX1_listShiftNeeds 1 none wsX1_listShiftNeeds RX1 args) (hK : va_K (dC, dI) vwCl [(cI, .int), (cJ, .long)] s) (hZ : Zs false (va_A w0 s.heap.size) s s.heap) (hn : LOk nS nn) (hi : R8 ii) (hj : R8 ij) (hk : R8 ik) {V : Int32 × (Nat → Int32)} (hV : (F_X1_listShiftNeeds iop ii ij ik nS nn ) = V) (ls : Array Slot) (hl : lv_has ls 1 [(0, .ref hI)]) {H : Heap} {locs : List Loc} (hP : va_P (dC, dI) vwCl [(hI, .inr (1, [.int iop, .int ii, .int ij, .int ik, .int ic, .int ip, .int iu, .ref hN, .ref hR])), (hN, .inr (3, [.ref n1, .int nS])), (n1, .inl (cI, 3, .inl nn))] H) (hD : va_D (va_A w0 s.heap.size) [(hI, .inr (1, [.int iop, .int ii, .int ij, .int ik, .int ic, .int ip, .int iu, .ref hN, .ref hR])), (hN, .inr (3, [.ref n1, .int nS])), (n1, .inl (cI, 3, .inl nn))]) (hS : va_S (va_A w0 s.heap.size) s.heap H locs) : W p l e rm_X1_listShiftNeeds s m args below meth c H locs 0 0 (MQ below (QV (dC, dI) [(cI, .int), (cJ, .long)] w0 [(hI, .inr (1, [.int iop, .int ii, .int ij, .int ik, .int ic, .int ip, .int iu, .ref hN, .ref hR])), (hN, .inr (3, [.ref n1, .int V.1])), (n1, .inl (cI, 3, .inl V.2))] s.heap.size) args s 0 0 (va_A w0 s.heap.size)) (F0 m 0 ls []) := by
  obtain ⟨hx, hb, hr, hlk, hml, hown, hts⟩ := id C0
  have hA : ∀ q : Nat, s.heap.size ≤ q → va_A w0 s.heap.size q := fun q h => Or.inr h
  refine lv_aload_n hx hb dX1_listShiftNeeds_0 rfl (lv_at hl 0 rfl) ?_
  refine va_get (D := (dC, dI)) (ci := 1) (v := .int iop) (C := RX1) (T := TX1) (N := 9) hx hb hts mi_X1_listShiftNeeds_X1 hown hK hP 0 rfl rfl 0 (by decide) (hts (.fieldLink RX1 25 "ScoreboardCore$Instruction" "op" "I") mm_X1_listShiftNeeds_f25) (fun _ h9 => h9) rfl dX1_listShiftNeeds_1 ?_
  refine lv_bipush (v := (16 : Int32)) hx hb dX1_listShiftNeeds_4 (by decide) ?_
  refine lv_icmp_eq (x := iop) (y := (16 : Int32)) (tgt := 18) hx hb dX1_listShiftNeeds_6 (by decide) (fun c1 => ?_) (fun c1 => ?_)
  · have e9 : (F_X1_listShiftNeeds iop ii ij ik nS nn ) = (F_X1_listShiftNeeds_18 ii nS nn) := by rw [F_X1_listShiftNeeds, if_pos c1]
    rw [e9] at hV
    exact j_X1_listShiftNeeds_18 dC dI cI cJ hI hN n1 hR iop ii ij ik ic ip iu nS nn C0 hK hZ hn hi hj hk nS nn (by first | exact hn' | exact hn | exact hn'.addX hi | exact hn'.addX hj | exact hn'.addX hk | exact hn'.addA hi | exact hn'.addA hj | exact hn'.addB hi | exact hn'.addB hj | exact hn'.addB hk | exact hn.addX hi | exact hn.addX hj | exact hn.addX hk | exact hn.addA hi | exact hn.addA hj | exact hn.addB hi | exact hn.addB hj | exact hn.addB hk) hV ls (lv_sub hl [0] rfl) hP hD hS
  · refine lv_aload_n hx hb dX1_listShiftNeeds_9 rfl (lv_at hl 0 rfl) ?_
    refine va_get (D := (dC, dI)) (ci := 1) (v := .int iop) (C := RX1) (T := TX1) (N := 9) hx hb hts mi_X1_listShiftNeeds_X1 hown hK hP 0 rfl rfl 0 (by decide) (hts (.fieldLink RX1 25 "ScoreboardCore$Instruction" "op" "I") mm_X1_listShiftNeeds_f25) (fun _ h9 => h9) rfl dX1_listShiftNeeds_10 ?_
    refine lv_bipush (v := (17 : Int32)) hx hb dX1_listShiftNeeds_13 (by decide) ?_
    refine lv_icmp_ne (x := iop) (y := (17 : Int32)) (tgt := 32) hx hb dX1_listShiftNeeds_15 (by decide) (fun c2 => ?_) (fun c2 => ?_)
    · refine lv_aload_n hx hb dX1_listShiftNeeds_32 rfl (lv_at hl 0 rfl) ?_
      refine va_get (D := (dC, dI)) (ci := 1) (v := .int iop) (C := RX1) (T := TX1) (N := 9) hx hb hts mi_X1_listShiftNeeds_X1 hown hK hP 0 rfl rfl 0 (by decide) (hts (.fieldLink RX1 25 "ScoreboardCore$Instruction" "op" "I") mm_X1_listShiftNeeds_f25) (fun _ h9 => h9) rfl dX1_listShiftNeeds_33 ?_
      refine lv_bipush (v := (18 : Int32)) hx hb dX1_listShiftNeeds_36 (by decide) ?_
      refine lv_icmp_eq (x := iop) (y := (18 : Int32)) (tgt := 50) hx hb dX1_listShiftNeeds_38 (by decide) (fun c3 => ?_) (fun c3 => ?_)
      · have e9 : (F_X1_listShiftNeeds iop ii ij ik nS nn ) = (F_X1_listShiftNeeds_50 ij ik nS nn) := by rw [F_X1_listShiftNeeds, if_neg c1, if_neg c2, if_pos c3]
        rw [e9] at hV
        exact j_X1_listShiftNeeds_50 dC dI cI cJ hI hN n1 hR iop ii ij ik ic ip iu nS nn C0 hK hZ hn hi hj hk nS nn (by first | exact hn' | exact hn | exact hn'.addX hi | exact hn'.addX hj | exact hn'.addX hk | exact hn'.addA hi | exact hn'.addA hj | exact hn'.addB hi | exact hn'.addB hj | exact hn'.addB hk | exact hn.addX hi | exact hn.addX hj | exact hn.addX hk | exact hn.addA hi | exact hn.addA hj | exact hn.addB hi | exact hn.addB hj | exact hn.addB hk) hV ls (lv_sub hl [0] rfl) hP hD hS
      · refine lv_aload_n hx hb dX1_listShiftNeeds_41 rfl (lv_at hl 0 rfl) ?_
        refine va_get (D := (dC, dI)) (ci := 1) (v := .int iop) (C := RX1) (T := TX1) (N := 9) hx hb hts mi_X1_listShiftNeeds_X1 hown hK hP 0 rfl rfl 0 (by decide) (hts (.fieldLink RX1 25 "ScoreboardCore$Instruction" "op" "I") mm_X1_listShiftNeeds_f25) (fun _ h9 => h9) rfl dX1_listShiftNeeds_42 ?_
        refine lv_bipush (v := (19 : Int32)) hx hb dX1_listShiftNeeds_45 (by decide) ?_
        refine lv_icmp_ne (x := iop) (y := (19 : Int32)) (tgt := 72) hx hb dX1_listShiftNeeds_47 (by decide) (fun c4 => ?_) (fun c4 => ?_)
        · have e9 : (F_X1_listShiftNeeds iop ii ij ik nS nn ) = (nS, nn) := by rw [F_X1_listShiftNeeds, if_neg c1, if_neg c2, if_neg c3, if_neg c4]
          rw [e9] at hV
          subst hV
          exact wrRetV C0 hK hP hD hS dX1_listShiftNeeds_72
        · have e9 : (F_X1_listShiftNeeds iop ii ij ik nS nn ) = (F_X1_listShiftNeeds_50 ij ik nS nn) := by rw [F_X1_listShiftNeeds, if_neg c1, if_neg c2, if_neg c3, if_pos c4]
          rw [e9] at hV
          exact j_X1_listShiftNeeds_50 dC dI cI cJ hI hN n1 hR iop ii ij ik ic ip iu nS nn C0 hK hZ hn hi hj hk nS nn (by first | exact hn' | exact hn | exact hn'.addX hi | exact hn'.addX hj | exact hn'.addX hk | exact hn'.addA hi | exact hn'.addA hj | exact hn'.addB hi | exact hn'.addB hj | exact hn'.addB hk | exact hn.addX hi | exact hn.addX hj | exact hn.addX hk | exact hn.addA hi | exact hn.addA hj | exact hn.addB hi | exact hn.addB hj | exact hn.addB hk) hV ls (lv_sub hl [0] rfl) hP hD hS
    · have e9 : (F_X1_listShiftNeeds iop ii ij ik nS nn ) = (F_X1_listShiftNeeds_18 ii nS nn) := by rw [F_X1_listShiftNeeds, if_neg c1, if_pos c2]
      rw [e9] at hV
      exact j_X1_listShiftNeeds_18 dC dI cI cJ hI hN n1 hR iop ii ij ik ic ip iu nS nn C0 hK hZ hn hi hj hk nS nn (by first | exact hn' | exact hn | exact hn'.addX hi | exact hn'.addX hj | exact hn'.addX hk | exact hn'.addA hi | exact hn'.addA hj | exact hn'.addB hi | exact hn'.addB hj | exact hn'.addB hk | exact hn.addX hi | exact hn.addX hj | exact hn.addX hk | exact hn.addA hi | exact hn.addA hj | exact hn.addB hi | exact hn.addB hj | exact hn.addB hk) hV ls (lv_sub hl [0] rfl) hP hD hS
theorem c_X1_listShiftNeeds (l : Launch) (dC : Nat → ClassId) (dI : Nat → Nat → Nat) (cI cJ : ClassId) (hI hN n1 hR : Nat) (iop : Int32) (ii : Int32) (ij : Int32) (ik : Int32) (ic : Int32) (ip : Int32) (iu : Int32) (nS : Int32) (nn : Nat → Int32) (hn : LOk nS nn) (hi : R8 ii) (hj : R8 ij) (hk : R8 ik) : WrV false l yX1_listShiftNeeds wsX1_listShiftNeeds rm_X1_listShiftNeeds (dC, dI) [(cI, .int), (cJ, .long)] [(hI, .inr (1, [.int iop, .int ii, .int ij, .int ik, .int ic, .int ip, .int iu, .ref hN, .ref hR])), (hN, .inr (3, [.ref n1, .int nS])), (n1, .inl (cI, 3, .inl nn))] [(hI, .inr (1, [.int iop, .int ii, .int ij, .int ik, .int ic, .int ip, .int iu, .ref hN, .ref hR])), (hN, .inr (3, [.ref n1, .int ((F_X1_listShiftNeeds iop ii ij ik nS nn ).1)])), (n1, .inl (cI, 3, .inl ((F_X1_listShiftNeeds iop ii ij ik nS nn ).2)))] [.ref hI] := by
  refine WrV.mk (cc := cX1_listShiftNeeds) (nL := 1) (ret := none) [(0, .ref hI)] (by decide) rfl (Nat.le_of_ble_eq_true rfl) rfl ?_
  intro p e s m below meth c C0 hP hK hD hS hZ ls hl
  exact w_X1_listShiftNeeds dC dI cI cJ hI hN n1 hR iop ii ij ik ic ip iu nS nn C0 hK hZ hn hi hj hk rfl ls hl hP hD hS

-- X1_listAddressNeeds
def F_X1_listAddressNeeds_102 (iop : Int32) (ii : Int32) (nS' : Int32) (nn' : Nat → Int32) : Int32 × (Nat → Int32) :=
  (if (F_X1_stores iop ii) = 0 then (nS', nn') else (((F_X5_addX ii nS' nn').1), ((F_X5_addX ii nS' nn').2)))
def F_X1_listAddressNeeds_83 (iop : Int32) (ii : Int32) (ik : Int32) (nS' : Int32) (nn' : Nat → Int32) : Int32 × (Nat → Int32) :=
  (if (F_X1_parcels iop) = (1 : Int32) then (F_X1_listAddressNeeds_102 iop ii ((F_X5_addB ik nS' nn').1) ((F_X5_addB ik nS' nn').2)) else (F_X1_listAddressNeeds_102 iop ii nS' nn'))
def F_X1_listAddressNeeds_44 (iop : Int32) (ii : Int32) (ij : Int32) (ik : Int32) (nS' : Int32) (nn' : Nat → Int32) : Int32 × (Nat → Int32) :=
  (F_X1_listAddressNeeds_83 iop ii ik ((F_X5_addA ij nS' nn').1) ((F_X5_addA ij nS' nn').2))
def F_X1_listAddressNeeds_72 (iop : Int32) (ii : Int32) (ij : Int32) (ik : Int32) (nS' : Int32) (nn' : Nat → Int32) : Int32 × (Nat → Int32) :=
  (F_X1_listAddressNeeds_83 iop ii ik ((F_X5_addB ij nS' nn').1) ((F_X5_addB ij nS' nn').2))
def F_X1_listAddressNeeds_58 (iop : Int32) (ii : Int32) (ij : Int32) (ik : Int32) (nS' : Int32) (nn' : Nat → Int32) : Int32 × (Nat → Int32) :=
  (F_X1_listAddressNeeds_83 iop ii ik ((F_X5_addX ij nS' nn').1) ((F_X5_addX ij nS' nn').2))
def F_X1_listAddressNeeds (iop : Int32) (ii : Int32) (ij : Int32) (ik : Int32) (nS : Int32) (nn : Nat → Int32) : Int32 × (Nat → Int32) :=
  (if (iop &&& (7 : Int32)) = (0 : Int32) then (F_X1_listAddressNeeds_44 iop ii ij ik nS nn) else (if (iop &&& (7 : Int32)) = (1 : Int32) then (F_X1_listAddressNeeds_72 iop ii ij ik nS nn) else (if (iop &&& (7 : Int32)) = (2 : Int32) then (F_X1_listAddressNeeds_58 iop ii ij ik nS nn) else (if (iop &&& (7 : Int32)) = (3 : Int32) then (F_X1_listAddressNeeds_58 iop ii ij ik nS nn) else (if (iop &&& (7 : Int32)) = (4 : Int32) then (F_X1_listAddressNeeds_44 iop ii ij ik nS nn) else (if (iop &&& (7 : Int32)) = (5 : Int32) then (F_X1_listAddressNeeds_44 iop ii ij ik nS nn) else (F_X1_listAddressNeeds_72 iop ii ij ik nS nn)))))))
abbrev rm_X1_listAddressNeeds : Room := { frames := 2, cells := 0, slots := 0, locals := 42 }
set_option maxRecDepth 20000 in
theorem mi_X1_listAddressNeeds_X1 : ∀ w ∈ wsX10, w ∈ wsX1_listAddressNeeds := by decide +kernel
set_option maxRecDepth 20000 in
theorem mm_X1_listAddressNeeds_f14 : Cond.fieldLink RX1 14 "ScoreboardCore$Instruction" "needs" "LScoreboardCore$RegisterList;" ∈ wsX1_listAddressNeeds := by decide +kernel
set_option maxRecDepth 20000 in
theorem mm_X1_listAddressNeeds_f25 : Cond.fieldLink RX1 25 "ScoreboardCore$Instruction" "op" "I" ∈ wsX1_listAddressNeeds := by decide +kernel
set_option maxRecDepth 20000 in
theorem mm_X1_listAddressNeeds_f28 : Cond.fieldLink RX1 28 "ScoreboardCore$Instruction" "i" "I" ∈ wsX1_listAddressNeeds := by decide +kernel
set_option maxRecDepth 20000 in
theorem mm_X1_listAddressNeeds_f31 : Cond.fieldLink RX1 31 "ScoreboardCore$Instruction" "j" "I" ∈ wsX1_listAddressNeeds := by decide +kernel
set_option maxRecDepth 20000 in
theorem mm_X1_listAddressNeeds_f34 : Cond.fieldLink RX1 34 "ScoreboardCore$Instruction" "k" "I" ∈ wsX1_listAddressNeeds := by decide +kernel
set_option maxRecDepth 20000 in
theorem mm_X1_listAddressNeeds_iX1 : Cond.initialized RX1 ∈ wsX1_listAddressNeeds := by decide +kernel
set_option maxRecDepth 20000 in
theorem mm_X1_listAddressNeeds_iX5 : Cond.initialized RX5 ∈ wsX1_listAddressNeeds := by decide +kernel
set_option maxRecDepth 20000 in
theorem mm_X1_listAddressNeeds_l61 : Cond.methodLink RX1 61 yX1_parcels ∈ wsX1_listAddressNeeds := by decide +kernel
set_option maxRecDepth 20000 in
theorem mm_X1_listAddressNeeds_l71 : Cond.methodLink RX1 71 yX5_addX ∈ wsX1_listAddressNeeds := by decide +kernel
set_option maxRecDepth 20000 in
theorem mm_X1_listAddressNeeds_l81 : Cond.methodLink RX1 81 yX5_addB ∈ wsX1_listAddressNeeds := by decide +kernel
set_option maxRecDepth 20000 in
theorem mm_X1_listAddressNeeds_l84 : Cond.methodLink RX1 84 yX5_addA ∈ wsX1_listAddressNeeds := by decide +kernel
set_option maxRecDepth 20000 in
theorem mm_X1_listAddressNeeds_l87 : Cond.methodLink RX1 87 yX1_stores ∈ wsX1_listAddressNeeds := by decide +kernel
set_option maxRecDepth 20000 in
theorem mm_X1_listAddressNeeds_nX1_parcels : Cond.instanceMethod yX1_parcels ∈ wsX1_listAddressNeeds := by decide +kernel
set_option maxRecDepth 20000 in
theorem mm_X1_listAddressNeeds_nX1_stores : Cond.instanceMethod yX1_stores ∈ wsX1_listAddressNeeds := by decide +kernel
set_option maxRecDepth 20000 in
theorem mm_X1_listAddressNeeds_nX5_addA : Cond.instanceMethod yX5_addA ∈ wsX1_listAddressNeeds := by decide +kernel
set_option maxRecDepth 20000 in
theorem mm_X1_listAddressNeeds_nX5_addB : Cond.instanceMethod yX5_addB ∈ wsX1_listAddressNeeds := by decide +kernel
set_option maxRecDepth 20000 in
theorem mm_X1_listAddressNeeds_nX5_addX : Cond.instanceMethod yX5_addX ∈ wsX1_listAddressNeeds := by decide +kernel
set_option maxRecDepth 20000 in
theorem mm_X1_listAddressNeeds_sX1_parcels : Cond.selects RX1 yX1_parcels yX1_parcels ∈ wsX1_listAddressNeeds := by decide +kernel
set_option maxRecDepth 20000 in
theorem mm_X1_listAddressNeeds_sX1_stores : Cond.selects RX1 yX1_stores yX1_stores ∈ wsX1_listAddressNeeds := by decide +kernel
set_option maxRecDepth 20000 in
theorem mm_X1_listAddressNeeds_sX5_addA : Cond.selects RX5 yX5_addA yX5_addA ∈ wsX1_listAddressNeeds := by decide +kernel
set_option maxRecDepth 20000 in
theorem mm_X1_listAddressNeeds_sX5_addB : Cond.selects RX5 yX5_addB yX5_addB ∈ wsX1_listAddressNeeds := by decide +kernel
set_option maxRecDepth 20000 in
theorem mm_X1_listAddressNeeds_sX5_addX : Cond.selects RX5 yX5_addX yX5_addX ∈ wsX1_listAddressNeeds := by decide +kernel
set_option maxHeartbeats 4000000 in
set_option maxRecDepth 100000 in
theorem j_X1_listAddressNeeds_102 {p : Program} {l : Launch} {e : Env} {s : State} {m : MethodId} {below : List Frame} {meth : Method} {c : Code} {args : Array Value} (dC : Nat → ClassId) (dI : Nat → Nat → Nat) (cI cJ : ClassId) (hI hN n1 hR : Nat) (iop : Int32) (ii : Int32) (ij : Int32) (ik : Int32) (ic : Int32) (ip : Int32) (iu : Int32) (nS : Int32) (nn : Nat → Int32) {w0 : va_W} (C0 : Cx p s m meth c cX1_listAddressNeeds 1 none wsX1_listAddressNeeds RX1 args) (hK : va_K (dC, dI) vwCl [(cI, .int), (cJ, .long)] s) (hZ : Zs false (va_A w0 s.heap.size) s s.heap) (hn : LOk nS nn) (hi : R8 ii) (hj : R8 ij) (hk : R8 ik) (nS' : Int32) (nn' : Nat → Int32) (hn' : LOk nS' nn') {V : Int32 × (Nat → Int32)} (hV : (F_X1_listAddressNeeds_102 iop ii nS' nn') = V) (ls : Array Slot) (hl : lv_has ls 1 [(0, .ref hI)]) {H : Heap} {locs : List Loc} (hP : va_P (dC, dI) vwCl [(hI, .inr (1, [.int iop, .int ii, .int ij, .int ik, .int ic, .int ip, .int iu, .ref hN, .ref hR])), (hN, .inr (3, [.ref n1, .int nS'])), (n1, .inl (cI, 3, .inl nn'))] H) (hD : va_D (va_A w0 s.heap.size) [(hI, .inr (1, [.int iop, .int ii, .int ij, .int ik, .int ic, .int ip, .int iu, .ref hN, .ref hR])), (hN, .inr (3, [.ref n1, .int nS'])), (n1, .inl (cI, 3, .inl nn'))]) (hS : va_S (va_A w0 s.heap.size) s.heap H locs) : W p l e rm_X1_listAddressNeeds s m args below meth c H locs 0 0 (MQ below (QV (dC, dI) [(cI, .int), (cJ, .long)] w0 [(hI, .inr (1, [.int iop, .int ii, .int ij, .int ik, .int ic, .int ip, .int iu, .ref hN, .ref hR])), (hN, .inr (3, [.ref n1, .int V.1])), (n1, .inl (cI, 3, .inl V.2))] s.heap.size) args s 0 0 (va_A w0 s.heap.size)) (F0 m 102 ls []) := by
  obtain ⟨hx, hb, hr, hlk, hml, hown, hts⟩ := id C0
  have hA : ∀ q : Nat, s.heap.size ≤ q → va_A w0 s.heap.size q := fun q h => Or.inr h
  refine lv_aload_n hx hb dX1_listAddressNeeds_102 rfl (lv_at hl 0 rfl) ?_
  refine roVi (As := []) (rest := []) (bytes := cX1_stores) (maxL := 1) (rty := (some .boolean)) (n := 0) (ci := 1) C0 (c_X1_stores l dC dI cI cJ hI hN hR iop ii ij ik ic ip iu) ⟨rfl, rfl, rfl, by decide +kernel, by decide, by decide⟩ ggX1_listAddressNeeds_X1_stores mm_X1_listAddressNeeds_iX1 mm_X1_listAddressNeeds_l87 mm_X1_listAddressNeeds_nX1_stores mm_X1_listAddressNeeds_sX1_stores rfl rfl (hP.sub (ws' := [(hI, .inr (1, [.int iop, .int ii, .int ij, .int ik, .int ic, .int ip, .int iu, .ref hN, .ref hR]))]) [0] rfl) hK hl.1 rfl rfl (Nat.le_of_ble_eq_true rfl) dX1_listAddressNeeds_103 ⟨Nat.zero_le _, Nat.zero_le _⟩ ?_
  refine lv_if_eq (x := (F_X1_stores iop ii)) (tgt := 120) hx hb dX1_listAddressNeeds_106 (by decide) (fun c1 => ?_) (fun c1 => ?_)
  · have e9 : (F_X1_listAddressNeeds_102 iop ii nS' nn') = (nS', nn') := by rw [F_X1_listAddressNeeds_102, if_pos c1]
    rw [e9] at hV
    subst hV
    exact wrRetV C0 hK hP hD hS dX1_listAddressNeeds_120
  · refine lv_aload_n hx hb dX1_listAddressNeeds_109 rfl (lv_at hl 0 rfl) ?_
    refine va_get (D := (dC, dI)) (ci := 1) (v := .ref hN) (C := RX1) (T := TX1) (N := 9) hx hb hts mi_X1_listAddressNeeds_X1 hown hK hP 0 rfl rfl 7 (by decide) (hts (.fieldLink RX1 14 "ScoreboardCore$Instruction" "needs" "LScoreboardCore$RegisterList;") mm_X1_listAddressNeeds_f14) (fun _ h9 => h9) rfl dX1_listAddressNeeds_110 ?_
    refine lv_aload_n hx hb dX1_listAddressNeeds_113 rfl (lv_at hl 0 rfl) ?_
    refine va_get (D := (dC, dI)) (ci := 1) (v := .int ii) (C := RX1) (T := TX1) (N := 9) hx hb hts mi_X1_listAddressNeeds_X1 hown hK hP 0 rfl rfl 1 (by decide) (hts (.fieldLink RX1 28 "ScoreboardCore$Instruction" "i" "I") mm_X1_listAddressNeeds_f28) (fun _ h9 => h9) rfl dX1_listAddressNeeds_114 ?_
    refine wrVv (As := [.int ii]) (rest := []) (bytes := cX5_addX) (maxL := 2) (rty := none) (n := 1) (ci := 3) C0 (c_X5_addX l dC dI cI cJ hN n1 ii nS' nn' (by first | exact hn' | exact hn | exact hn'.addX hi | exact hn'.addX hj | exact hn'.addX hk | exact hn'.addA hi | exact hn'.addA hj | exact hn'.addB hi | exact hn'.addB hj | exact hn'.addB hk | exact hn.addX hi | exact hn.addX hj | exact hn.addX hk | exact hn.addA hi | exact hn.addA hj | exact hn.addB hi | exact hn.addB hj | exact hn.addB hk)) ⟨rfl, rfl, rfl, by decide +kernel, by decide, by decide⟩ ggX1_listAddressNeeds_X5_addX mm_X1_listAddressNeeds_iX5 mm_X1_listAddressNeeds_l71 mm_X1_listAddressNeeds_nX5_addX mm_X1_listAddressNeeds_sX5_addX rfl rfl hP hD hK hS hA (Zs.no _ _ _) [1, 2] [0] [0, 1, 2] [(hI, .inr (1, [.int iop, .int ii, .int ij, .int ik, .int ic, .int ip, .int iu, .ref hN, .ref hR]))] [(hI, .inr (1, [.int iop, .int ii, .int ij, .int ik, .int ic, .int ip, .int iu, .ref hN, .ref hR])), (hN, .inr (3, [.ref n1, .int ((F_X5_addX ii nS' nn').1)])), (n1, .inl (cI, 3, .inl ((F_X5_addX ii nS' nn').2)))] rfl (by decide) (hP.sub (ws' := [(hN, .inr (3, [.ref n1, .int nS'])), (n1, .inl (cI, 3, .inl nn'))]) [1, 2] rfl) rfl (by decide) (by decide) (by decide) rfl hl.1 rfl rfl (Nat.le_of_ble_eq_true rfl) dX1_listAddressNeeds_117 ⟨Nat.zero_le _, Nat.zero_le _⟩ (fun H locs hP hD hS => ?_)
    have e9 : (F_X1_listAddressNeeds_102 iop ii nS' nn') = (((F_X5_addX ii nS' nn').1), ((F_X5_addX ii nS' nn').2)) := by rw [F_X1_listAddressNeeds_102, if_neg c1]
    rw [e9] at hV
    subst hV
    exact wrRetV C0 hK hP hD hS dX1_listAddressNeeds_120
set_option maxHeartbeats 4000000 in
set_option maxRecDepth 100000 in
theorem j_X1_listAddressNeeds_83 {p : Program} {l : Launch} {e : Env} {s : State} {m : MethodId} {below : List Frame} {meth : Method} {c : Code} {args : Array Value} (dC : Nat → ClassId) (dI : Nat → Nat → Nat) (cI cJ : ClassId) (hI hN n1 hR : Nat) (iop : Int32) (ii : Int32) (ij : Int32) (ik : Int32) (ic : Int32) (ip : Int32) (iu : Int32) (nS : Int32) (nn : Nat → Int32) {w0 : va_W} (C0 : Cx p s m meth c cX1_listAddressNeeds 1 none wsX1_listAddressNeeds RX1 args) (hK : va_K (dC, dI) vwCl [(cI, .int), (cJ, .long)] s) (hZ : Zs false (va_A w0 s.heap.size) s s.heap) (hn : LOk nS nn) (hi : R8 ii) (hj : R8 ij) (hk : R8 ik) (nS' : Int32) (nn' : Nat → Int32) (hn' : LOk nS' nn') {V : Int32 × (Nat → Int32)} (hV : (F_X1_listAddressNeeds_83 iop ii ik nS' nn') = V) (ls : Array Slot) (hl : lv_has ls 1 [(0, .ref hI)]) {H : Heap} {locs : List Loc} (hP : va_P (dC, dI) vwCl [(hI, .inr (1, [.int iop, .int ii, .int ij, .int ik, .int ic, .int ip, .int iu, .ref hN, .ref hR])), (hN, .inr (3, [.ref n1, .int nS'])), (n1, .inl (cI, 3, .inl nn'))] H) (hD : va_D (va_A w0 s.heap.size) [(hI, .inr (1, [.int iop, .int ii, .int ij, .int ik, .int ic, .int ip, .int iu, .ref hN, .ref hR])), (hN, .inr (3, [.ref n1, .int nS'])), (n1, .inl (cI, 3, .inl nn'))]) (hS : va_S (va_A w0 s.heap.size) s.heap H locs) : W p l e rm_X1_listAddressNeeds s m args below meth c H locs 0 0 (MQ below (QV (dC, dI) [(cI, .int), (cJ, .long)] w0 [(hI, .inr (1, [.int iop, .int ii, .int ij, .int ik, .int ic, .int ip, .int iu, .ref hN, .ref hR])), (hN, .inr (3, [.ref n1, .int V.1])), (n1, .inl (cI, 3, .inl V.2))] s.heap.size) args s 0 0 (va_A w0 s.heap.size)) (F0 m 83 ls []) := by
  obtain ⟨hx, hb, hr, hlk, hml, hown, hts⟩ := id C0
  have hA : ∀ q : Nat, s.heap.size ≤ q → va_A w0 s.heap.size q := fun q h => Or.inr h
  refine lv_aload_n hx hb dX1_listAddressNeeds_83 rfl (lv_at hl 0 rfl) ?_
  refine roVi (As := []) (rest := []) (bytes := cX1_parcels) (maxL := 2) (rty := (some .int)) (n := 0) (ci := 1) C0 (c_X1_parcels l dC dI cI cJ hI hN hR iop ii ij ik ic ip iu) ⟨rfl, rfl, rfl, by decide +kernel, by decide, by decide⟩ ggX1_listAddressNeeds_X1_parcels mm_X1_listAddressNeeds_iX1 mm_X1_listAddressNeeds_l61 mm_X1_listAddressNeeds_nX1_parcels mm_X1_listAddressNeeds_sX1_parcels rfl rfl (hP.sub (ws' := [(hI, .inr (1, [.int iop, .int ii, .int ij, .int ik, .int ic, .int ip, .int iu, .ref hN, .ref hR]))]) [0] rfl) hK hl.1 rfl rfl (Nat.le_of_ble_eq_true rfl) dX1_listAddressNeeds_84 ⟨Nat.zero_le _, Nat.zero_le _⟩ ?_
  refine lv_iconst (v := (1 : Int32)) hx hb dX1_listAddressNeeds_87 (by decide) ?_
  refine lv_icmp_ne (x := (F_X1_parcels iop)) (y := (1 : Int32)) (tgt := 102) hx hb dX1_listAddressNeeds_88 (by decide) (fun c1 => ?_) (fun c1 => ?_)
  · have e9 : (F_X1_listAddressNeeds_83 iop ii ik nS' nn') = (F_X1_listAddressNeeds_102 iop ii nS' nn') := by rw [F_X1_listAddressNeeds_83, if_neg c1]
    rw [e9] at hV
    exact j_X1_listAddressNeeds_102 dC dI cI cJ hI hN n1 hR iop ii ij ik ic ip iu nS nn C0 hK hZ hn hi hj hk nS' nn' (by first | exact hn' | exact hn | exact hn'.addX hi | exact hn'.addX hj | exact hn'.addX hk | exact hn'.addA hi | exact hn'.addA hj | exact hn'.addB hi | exact hn'.addB hj | exact hn'.addB hk | exact hn.addX hi | exact hn.addX hj | exact hn.addX hk | exact hn.addA hi | exact hn.addA hj | exact hn.addB hi | exact hn.addB hj | exact hn.addB hk) hV ls (lv_sub hl [0] rfl) hP hD hS
  · refine lv_aload_n hx hb dX1_listAddressNeeds_91 rfl (lv_at hl 0 rfl) ?_
    refine va_get (D := (dC, dI)) (ci := 1) (v := .ref hN) (C := RX1) (T := TX1) (N := 9) hx hb hts mi_X1_listAddressNeeds_X1 hown hK hP 0 rfl rfl 7 (by decide) (hts (.fieldLink RX1 14 "ScoreboardCore$Instruction" "needs" "LScoreboardCore$RegisterList;") mm_X1_listAddressNeeds_f14) (fun _ h9 => h9) rfl dX1_listAddressNeeds_92 ?_
    refine lv_aload_n hx hb dX1_listAddressNeeds_95 rfl (lv_at hl 0 rfl) ?_
    refine va_get (D := (dC, dI)) (ci := 1) (v := .int ik) (C := RX1) (T := TX1) (N := 9) hx hb hts mi_X1_listAddressNeeds_X1 hown hK hP 0 rfl rfl 3 (by decide) (hts (.fieldLink RX1 34 "ScoreboardCore$Instruction" "k" "I") mm_X1_listAddressNeeds_f34) (fun _ h9 => h9) rfl dX1_listAddressNeeds_96 ?_
    refine wrVv (As := [.int ik]) (rest := []) (bytes := cX5_addB) (maxL := 2) (rty := none) (n := 1) (ci := 3) C0 (c_X5_addB l dC dI cI cJ hN n1 ik nS' nn' (by first | exact hn' | exact hn | exact hn'.addX hi | exact hn'.addX hj | exact hn'.addX hk | exact hn'.addA hi | exact hn'.addA hj | exact hn'.addB hi | exact hn'.addB hj | exact hn'.addB hk | exact hn.addX hi | exact hn.addX hj | exact hn.addX hk | exact hn.addA hi | exact hn.addA hj | exact hn.addB hi | exact hn.addB hj | exact hn.addB hk)) ⟨rfl, rfl, rfl, by decide +kernel, by decide, by decide⟩ ggX1_listAddressNeeds_X5_addB mm_X1_listAddressNeeds_iX5 mm_X1_listAddressNeeds_l81 mm_X1_listAddressNeeds_nX5_addB mm_X1_listAddressNeeds_sX5_addB rfl rfl hP hD hK hS hA (Zs.no _ _ _) [1, 2] [0] [0, 1, 2] [(hI, .inr (1, [.int iop, .int ii, .int ij, .int ik, .int ic, .int ip, .int iu, .ref hN, .ref hR]))] [(hI, .inr (1, [.int iop, .int ii, .int ij, .int ik, .int ic, .int ip, .int iu, .ref hN, .ref hR])), (hN, .inr (3, [.ref n1, .int ((F_X5_addB ik nS' nn').1)])), (n1, .inl (cI, 3, .inl ((F_X5_addB ik nS' nn').2)))] rfl (by decide) (hP.sub (ws' := [(hN, .inr (3, [.ref n1, .int nS'])), (n1, .inl (cI, 3, .inl nn'))]) [1, 2] rfl) rfl (by decide) (by decide) (by decide) rfl hl.1 rfl rfl (Nat.le_of_ble_eq_true rfl) dX1_listAddressNeeds_99 ⟨Nat.zero_le _, Nat.zero_le _⟩ (fun H locs hP hD hS => ?_)
    have e9 : (F_X1_listAddressNeeds_83 iop ii ik nS' nn') = (F_X1_listAddressNeeds_102 iop ii ((F_X5_addB ik nS' nn').1) ((F_X5_addB ik nS' nn').2)) := by rw [F_X1_listAddressNeeds_83, if_pos c1]
    rw [e9] at hV
    exact j_X1_listAddressNeeds_102 dC dI cI cJ hI hN n1 hR iop ii ij ik ic ip iu nS nn C0 hK hZ hn hi hj hk ((F_X5_addB ik nS' nn').1) ((F_X5_addB ik nS' nn').2) (by first | exact hn' | exact hn | exact hn'.addX hi | exact hn'.addX hj | exact hn'.addX hk | exact hn'.addA hi | exact hn'.addA hj | exact hn'.addB hi | exact hn'.addB hj | exact hn'.addB hk | exact hn.addX hi | exact hn.addX hj | exact hn.addX hk | exact hn.addA hi | exact hn.addA hj | exact hn.addB hi | exact hn.addB hj | exact hn.addB hk) hV ls (lv_sub hl [0] rfl) hP hD hS
set_option maxHeartbeats 4000000 in
set_option maxRecDepth 100000 in
theorem j_X1_listAddressNeeds_44 {p : Program} {l : Launch} {e : Env} {s : State} {m : MethodId} {below : List Frame} {meth : Method} {c : Code} {args : Array Value} (dC : Nat → ClassId) (dI : Nat → Nat → Nat) (cI cJ : ClassId) (hI hN n1 hR : Nat) (iop : Int32) (ii : Int32) (ij : Int32) (ik : Int32) (ic : Int32) (ip : Int32) (iu : Int32) (nS : Int32) (nn : Nat → Int32) {w0 : va_W} (C0 : Cx p s m meth c cX1_listAddressNeeds 1 none wsX1_listAddressNeeds RX1 args) (hK : va_K (dC, dI) vwCl [(cI, .int), (cJ, .long)] s) (hZ : Zs false (va_A w0 s.heap.size) s s.heap) (hn : LOk nS nn) (hi : R8 ii) (hj : R8 ij) (hk : R8 ik) (nS' : Int32) (nn' : Nat → Int32) (hn' : LOk nS' nn') {V : Int32 × (Nat → Int32)} (hV : (F_X1_listAddressNeeds_44 iop ii ij ik nS' nn') = V) (ls : Array Slot) (hl : lv_has ls 1 [(0, .ref hI)]) {H : Heap} {locs : List Loc} (hP : va_P (dC, dI) vwCl [(hI, .inr (1, [.int iop, .int ii, .int ij, .int ik, .int ic, .int ip, .int iu, .ref hN, .ref hR])), (hN, .inr (3, [.ref n1, .int nS'])), (n1, .inl (cI, 3, .inl nn'))] H) (hD : va_D (va_A w0 s.heap.size) [(hI, .inr (1, [.int iop, .int ii, .int ij, .int ik, .int ic, .int ip, .int iu, .ref hN, .ref hR])), (hN, .inr (3, [.ref n1, .int nS'])), (n1, .inl (cI, 3, .inl nn'))]) (hS : va_S (va_A w0 s.heap.size) s.heap H locs) : W p l e rm_X1_listAddressNeeds s m args below meth c H locs 0 0 (MQ below (QV (dC, dI) [(cI, .int), (cJ, .long)] w0 [(hI, .inr (1, [.int iop, .int ii, .int ij, .int ik, .int ic, .int ip, .int iu, .ref hN, .ref hR])), (hN, .inr (3, [.ref n1, .int V.1])), (n1, .inl (cI, 3, .inl V.2))] s.heap.size) args s 0 0 (va_A w0 s.heap.size)) (F0 m 44 ls []) := by
  obtain ⟨hx, hb, hr, hlk, hml, hown, hts⟩ := id C0
  have hA : ∀ q : Nat, s.heap.size ≤ q → va_A w0 s.heap.size q := fun q h => Or.inr h
  refine lv_aload_n hx hb dX1_listAddressNeeds_44 rfl (lv_at hl 0 rfl) ?_
  refine va_get (D := (dC, dI)) (ci := 1) (v := .ref hN) (C := RX1) (T := TX1) (N := 9) hx hb hts mi_X1_listAddressNeeds_X1 hown hK hP 0 rfl rfl 7 (by decide) (hts (.fieldLink RX1 14 "ScoreboardCore$Instruction" "needs" "LScoreboardCore$RegisterList;") mm_X1_listAddressNeeds_f14) (fun _ h9 => h9) rfl dX1_listAddressNeeds_45 ?_
  refine lv_aload_n hx hb dX1_listAddressNeeds_48 rfl (lv_at hl 0 rfl) ?_
  refine va_get (D := (dC, dI)) (ci := 1) (v := .int ij) (C := RX1) (T := TX1) (N := 9) hx hb hts mi_X1_listAddressNeeds_X1 hown hK hP 0 rfl rfl 2 (by decide) (hts (.fieldLink RX1 31 "ScoreboardCore$Instruction" "j" "I") mm_X1_listAddressNeeds_f31) (fun _ h9 => h9) rfl dX1_listAddressNeeds_49 ?_
  refine wrVv (As := [.int ij]) (rest := []) (bytes := cX5_addA) (maxL := 2) (rty := none) (n := 1) (ci := 3) C0 (c_X5_addA l dC dI cI cJ hN n1 ij nS' nn' (by first | exact hn' | exact hn | exact hn'.addX hi | exact hn'.addX hj | exact hn'.addX hk | exact hn'.addA hi | exact hn'.addA hj | exact hn'.addB hi | exact hn'.addB hj | exact hn'.addB hk | exact hn.addX hi | exact hn.addX hj | exact hn.addX hk | exact hn.addA hi | exact hn.addA hj | exact hn.addB hi | exact hn.addB hj | exact hn.addB hk)) ⟨rfl, rfl, rfl, by decide +kernel, by decide, by decide⟩ ggX1_listAddressNeeds_X5_addA mm_X1_listAddressNeeds_iX5 mm_X1_listAddressNeeds_l84 mm_X1_listAddressNeeds_nX5_addA mm_X1_listAddressNeeds_sX5_addA rfl rfl hP hD hK hS hA (Zs.no _ _ _) [1, 2] [0] [0, 1, 2] [(hI, .inr (1, [.int iop, .int ii, .int ij, .int ik, .int ic, .int ip, .int iu, .ref hN, .ref hR]))] [(hI, .inr (1, [.int iop, .int ii, .int ij, .int ik, .int ic, .int ip, .int iu, .ref hN, .ref hR])), (hN, .inr (3, [.ref n1, .int ((F_X5_addA ij nS' nn').1)])), (n1, .inl (cI, 3, .inl ((F_X5_addA ij nS' nn').2)))] rfl (by decide) (hP.sub (ws' := [(hN, .inr (3, [.ref n1, .int nS'])), (n1, .inl (cI, 3, .inl nn'))]) [1, 2] rfl) rfl (by decide) (by decide) (by decide) rfl hl.1 rfl rfl (Nat.le_of_ble_eq_true rfl) dX1_listAddressNeeds_52 ⟨Nat.zero_le _, Nat.zero_le _⟩ (fun H locs hP hD hS => ?_)
  refine lv_goto (tgt := 83) hx hb dX1_listAddressNeeds_55 (by decide) ?_
  have e9 : (F_X1_listAddressNeeds_44 iop ii ij ik nS' nn') = (F_X1_listAddressNeeds_83 iop ii ik ((F_X5_addA ij nS' nn').1) ((F_X5_addA ij nS' nn').2)) := by rw [F_X1_listAddressNeeds_44]
  rw [e9] at hV
  exact j_X1_listAddressNeeds_83 dC dI cI cJ hI hN n1 hR iop ii ij ik ic ip iu nS nn C0 hK hZ hn hi hj hk ((F_X5_addA ij nS' nn').1) ((F_X5_addA ij nS' nn').2) (by first | exact hn' | exact hn | exact hn'.addX hi | exact hn'.addX hj | exact hn'.addX hk | exact hn'.addA hi | exact hn'.addA hj | exact hn'.addB hi | exact hn'.addB hj | exact hn'.addB hk | exact hn.addX hi | exact hn.addX hj | exact hn.addX hk | exact hn.addA hi | exact hn.addA hj | exact hn.addB hi | exact hn.addB hj | exact hn.addB hk) hV ls (lv_sub hl [0] rfl) hP hD hS
set_option maxHeartbeats 4000000 in
set_option maxRecDepth 100000 in
theorem j_X1_listAddressNeeds_72 {p : Program} {l : Launch} {e : Env} {s : State} {m : MethodId} {below : List Frame} {meth : Method} {c : Code} {args : Array Value} (dC : Nat → ClassId) (dI : Nat → Nat → Nat) (cI cJ : ClassId) (hI hN n1 hR : Nat) (iop : Int32) (ii : Int32) (ij : Int32) (ik : Int32) (ic : Int32) (ip : Int32) (iu : Int32) (nS : Int32) (nn : Nat → Int32) {w0 : va_W} (C0 : Cx p s m meth c cX1_listAddressNeeds 1 none wsX1_listAddressNeeds RX1 args) (hK : va_K (dC, dI) vwCl [(cI, .int), (cJ, .long)] s) (hZ : Zs false (va_A w0 s.heap.size) s s.heap) (hn : LOk nS nn) (hi : R8 ii) (hj : R8 ij) (hk : R8 ik) (nS' : Int32) (nn' : Nat → Int32) (hn' : LOk nS' nn') {V : Int32 × (Nat → Int32)} (hV : (F_X1_listAddressNeeds_72 iop ii ij ik nS' nn') = V) (ls : Array Slot) (hl : lv_has ls 1 [(0, .ref hI)]) {H : Heap} {locs : List Loc} (hP : va_P (dC, dI) vwCl [(hI, .inr (1, [.int iop, .int ii, .int ij, .int ik, .int ic, .int ip, .int iu, .ref hN, .ref hR])), (hN, .inr (3, [.ref n1, .int nS'])), (n1, .inl (cI, 3, .inl nn'))] H) (hD : va_D (va_A w0 s.heap.size) [(hI, .inr (1, [.int iop, .int ii, .int ij, .int ik, .int ic, .int ip, .int iu, .ref hN, .ref hR])), (hN, .inr (3, [.ref n1, .int nS'])), (n1, .inl (cI, 3, .inl nn'))]) (hS : va_S (va_A w0 s.heap.size) s.heap H locs) : W p l e rm_X1_listAddressNeeds s m args below meth c H locs 0 0 (MQ below (QV (dC, dI) [(cI, .int), (cJ, .long)] w0 [(hI, .inr (1, [.int iop, .int ii, .int ij, .int ik, .int ic, .int ip, .int iu, .ref hN, .ref hR])), (hN, .inr (3, [.ref n1, .int V.1])), (n1, .inl (cI, 3, .inl V.2))] s.heap.size) args s 0 0 (va_A w0 s.heap.size)) (F0 m 72 ls []) := by
  obtain ⟨hx, hb, hr, hlk, hml, hown, hts⟩ := id C0
  have hA : ∀ q : Nat, s.heap.size ≤ q → va_A w0 s.heap.size q := fun q h => Or.inr h
  refine lv_aload_n hx hb dX1_listAddressNeeds_72 rfl (lv_at hl 0 rfl) ?_
  refine va_get (D := (dC, dI)) (ci := 1) (v := .ref hN) (C := RX1) (T := TX1) (N := 9) hx hb hts mi_X1_listAddressNeeds_X1 hown hK hP 0 rfl rfl 7 (by decide) (hts (.fieldLink RX1 14 "ScoreboardCore$Instruction" "needs" "LScoreboardCore$RegisterList;") mm_X1_listAddressNeeds_f14) (fun _ h9 => h9) rfl dX1_listAddressNeeds_73 ?_
  refine lv_aload_n hx hb dX1_listAddressNeeds_76 rfl (lv_at hl 0 rfl) ?_
  refine va_get (D := (dC, dI)) (ci := 1) (v := .int ij) (C := RX1) (T := TX1) (N := 9) hx hb hts mi_X1_listAddressNeeds_X1 hown hK hP 0 rfl rfl 2 (by decide) (hts (.fieldLink RX1 31 "ScoreboardCore$Instruction" "j" "I") mm_X1_listAddressNeeds_f31) (fun _ h9 => h9) rfl dX1_listAddressNeeds_77 ?_
  refine wrVv (As := [.int ij]) (rest := []) (bytes := cX5_addB) (maxL := 2) (rty := none) (n := 1) (ci := 3) C0 (c_X5_addB l dC dI cI cJ hN n1 ij nS' nn' (by first | exact hn' | exact hn | exact hn'.addX hi | exact hn'.addX hj | exact hn'.addX hk | exact hn'.addA hi | exact hn'.addA hj | exact hn'.addB hi | exact hn'.addB hj | exact hn'.addB hk | exact hn.addX hi | exact hn.addX hj | exact hn.addX hk | exact hn.addA hi | exact hn.addA hj | exact hn.addB hi | exact hn.addB hj | exact hn.addB hk)) ⟨rfl, rfl, rfl, by decide +kernel, by decide, by decide⟩ ggX1_listAddressNeeds_X5_addB mm_X1_listAddressNeeds_iX5 mm_X1_listAddressNeeds_l81 mm_X1_listAddressNeeds_nX5_addB mm_X1_listAddressNeeds_sX5_addB rfl rfl hP hD hK hS hA (Zs.no _ _ _) [1, 2] [0] [0, 1, 2] [(hI, .inr (1, [.int iop, .int ii, .int ij, .int ik, .int ic, .int ip, .int iu, .ref hN, .ref hR]))] [(hI, .inr (1, [.int iop, .int ii, .int ij, .int ik, .int ic, .int ip, .int iu, .ref hN, .ref hR])), (hN, .inr (3, [.ref n1, .int ((F_X5_addB ij nS' nn').1)])), (n1, .inl (cI, 3, .inl ((F_X5_addB ij nS' nn').2)))] rfl (by decide) (hP.sub (ws' := [(hN, .inr (3, [.ref n1, .int nS'])), (n1, .inl (cI, 3, .inl nn'))]) [1, 2] rfl) rfl (by decide) (by decide) (by decide) rfl hl.1 rfl rfl (Nat.le_of_ble_eq_true rfl) dX1_listAddressNeeds_80 ⟨Nat.zero_le _, Nat.zero_le _⟩ (fun H locs hP hD hS => ?_)
  have e9 : (F_X1_listAddressNeeds_72 iop ii ij ik nS' nn') = (F_X1_listAddressNeeds_83 iop ii ik ((F_X5_addB ij nS' nn').1) ((F_X5_addB ij nS' nn').2)) := by rw [F_X1_listAddressNeeds_72]
  rw [e9] at hV
  exact j_X1_listAddressNeeds_83 dC dI cI cJ hI hN n1 hR iop ii ij ik ic ip iu nS nn C0 hK hZ hn hi hj hk ((F_X5_addB ij nS' nn').1) ((F_X5_addB ij nS' nn').2) (by first | exact hn' | exact hn | exact hn'.addX hi | exact hn'.addX hj | exact hn'.addX hk | exact hn'.addA hi | exact hn'.addA hj | exact hn'.addB hi | exact hn'.addB hj | exact hn'.addB hk | exact hn.addX hi | exact hn.addX hj | exact hn.addX hk | exact hn.addA hi | exact hn.addA hj | exact hn.addB hi | exact hn.addB hj | exact hn.addB hk) hV ls (lv_sub hl [0] rfl) hP hD hS
set_option maxHeartbeats 4000000 in
set_option maxRecDepth 100000 in
theorem j_X1_listAddressNeeds_58 {p : Program} {l : Launch} {e : Env} {s : State} {m : MethodId} {below : List Frame} {meth : Method} {c : Code} {args : Array Value} (dC : Nat → ClassId) (dI : Nat → Nat → Nat) (cI cJ : ClassId) (hI hN n1 hR : Nat) (iop : Int32) (ii : Int32) (ij : Int32) (ik : Int32) (ic : Int32) (ip : Int32) (iu : Int32) (nS : Int32) (nn : Nat → Int32) {w0 : va_W} (C0 : Cx p s m meth c cX1_listAddressNeeds 1 none wsX1_listAddressNeeds RX1 args) (hK : va_K (dC, dI) vwCl [(cI, .int), (cJ, .long)] s) (hZ : Zs false (va_A w0 s.heap.size) s s.heap) (hn : LOk nS nn) (hi : R8 ii) (hj : R8 ij) (hk : R8 ik) (nS' : Int32) (nn' : Nat → Int32) (hn' : LOk nS' nn') {V : Int32 × (Nat → Int32)} (hV : (F_X1_listAddressNeeds_58 iop ii ij ik nS' nn') = V) (ls : Array Slot) (hl : lv_has ls 1 [(0, .ref hI)]) {H : Heap} {locs : List Loc} (hP : va_P (dC, dI) vwCl [(hI, .inr (1, [.int iop, .int ii, .int ij, .int ik, .int ic, .int ip, .int iu, .ref hN, .ref hR])), (hN, .inr (3, [.ref n1, .int nS'])), (n1, .inl (cI, 3, .inl nn'))] H) (hD : va_D (va_A w0 s.heap.size) [(hI, .inr (1, [.int iop, .int ii, .int ij, .int ik, .int ic, .int ip, .int iu, .ref hN, .ref hR])), (hN, .inr (3, [.ref n1, .int nS'])), (n1, .inl (cI, 3, .inl nn'))]) (hS : va_S (va_A w0 s.heap.size) s.heap H locs) : W p l e rm_X1_listAddressNeeds s m args below meth c H locs 0 0 (MQ below (QV (dC, dI) [(cI, .int), (cJ, .long)] w0 [(hI, .inr (1, [.int iop, .int ii, .int ij, .int ik, .int ic, .int ip, .int iu, .ref hN, .ref hR])), (hN, .inr (3, [.ref n1, .int V.1])), (n1, .inl (cI, 3, .inl V.2))] s.heap.size) args s 0 0 (va_A w0 s.heap.size)) (F0 m 58 ls []) := by
  obtain ⟨hx, hb, hr, hlk, hml, hown, hts⟩ := id C0
  have hA : ∀ q : Nat, s.heap.size ≤ q → va_A w0 s.heap.size q := fun q h => Or.inr h
  refine lv_aload_n hx hb dX1_listAddressNeeds_58 rfl (lv_at hl 0 rfl) ?_
  refine va_get (D := (dC, dI)) (ci := 1) (v := .ref hN) (C := RX1) (T := TX1) (N := 9) hx hb hts mi_X1_listAddressNeeds_X1 hown hK hP 0 rfl rfl 7 (by decide) (hts (.fieldLink RX1 14 "ScoreboardCore$Instruction" "needs" "LScoreboardCore$RegisterList;") mm_X1_listAddressNeeds_f14) (fun _ h9 => h9) rfl dX1_listAddressNeeds_59 ?_
  refine lv_aload_n hx hb dX1_listAddressNeeds_62 rfl (lv_at hl 0 rfl) ?_
  refine va_get (D := (dC, dI)) (ci := 1) (v := .int ij) (C := RX1) (T := TX1) (N := 9) hx hb hts mi_X1_listAddressNeeds_X1 hown hK hP 0 rfl rfl 2 (by decide) (hts (.fieldLink RX1 31 "ScoreboardCore$Instruction" "j" "I") mm_X1_listAddressNeeds_f31) (fun _ h9 => h9) rfl dX1_listAddressNeeds_63 ?_
  refine wrVv (As := [.int ij]) (rest := []) (bytes := cX5_addX) (maxL := 2) (rty := none) (n := 1) (ci := 3) C0 (c_X5_addX l dC dI cI cJ hN n1 ij nS' nn' (by first | exact hn' | exact hn | exact hn'.addX hi | exact hn'.addX hj | exact hn'.addX hk | exact hn'.addA hi | exact hn'.addA hj | exact hn'.addB hi | exact hn'.addB hj | exact hn'.addB hk | exact hn.addX hi | exact hn.addX hj | exact hn.addX hk | exact hn.addA hi | exact hn.addA hj | exact hn.addB hi | exact hn.addB hj | exact hn.addB hk)) ⟨rfl, rfl, rfl, by decide +kernel, by decide, by decide⟩ ggX1_listAddressNeeds_X5_addX mm_X1_listAddressNeeds_iX5 mm_X1_listAddressNeeds_l71 mm_X1_listAddressNeeds_nX5_addX mm_X1_listAddressNeeds_sX5_addX rfl rfl hP hD hK hS hA (Zs.no _ _ _) [1, 2] [0] [0, 1, 2] [(hI, .inr (1, [.int iop, .int ii, .int ij, .int ik, .int ic, .int ip, .int iu, .ref hN, .ref hR]))] [(hI, .inr (1, [.int iop, .int ii, .int ij, .int ik, .int ic, .int ip, .int iu, .ref hN, .ref hR])), (hN, .inr (3, [.ref n1, .int ((F_X5_addX ij nS' nn').1)])), (n1, .inl (cI, 3, .inl ((F_X5_addX ij nS' nn').2)))] rfl (by decide) (hP.sub (ws' := [(hN, .inr (3, [.ref n1, .int nS'])), (n1, .inl (cI, 3, .inl nn'))]) [1, 2] rfl) rfl (by decide) (by decide) (by decide) rfl hl.1 rfl rfl (Nat.le_of_ble_eq_true rfl) dX1_listAddressNeeds_66 ⟨Nat.zero_le _, Nat.zero_le _⟩ (fun H locs hP hD hS => ?_)
  refine lv_goto (tgt := 83) hx hb dX1_listAddressNeeds_69 (by decide) ?_
  have e9 : (F_X1_listAddressNeeds_58 iop ii ij ik nS' nn') = (F_X1_listAddressNeeds_83 iop ii ik ((F_X5_addX ij nS' nn').1) ((F_X5_addX ij nS' nn').2)) := by rw [F_X1_listAddressNeeds_58]
  rw [e9] at hV
  exact j_X1_listAddressNeeds_83 dC dI cI cJ hI hN n1 hR iop ii ij ik ic ip iu nS nn C0 hK hZ hn hi hj hk ((F_X5_addX ij nS' nn').1) ((F_X5_addX ij nS' nn').2) (by first | exact hn' | exact hn | exact hn'.addX hi | exact hn'.addX hj | exact hn'.addX hk | exact hn'.addA hi | exact hn'.addA hj | exact hn'.addB hi | exact hn'.addB hj | exact hn'.addB hk | exact hn.addX hi | exact hn.addX hj | exact hn.addX hk | exact hn.addA hi | exact hn.addA hj | exact hn.addB hi | exact hn.addB hj | exact hn.addB hk) hV ls (lv_sub hl [0] rfl) hP hD hS
set_option maxHeartbeats 4000000 in
set_option maxRecDepth 100000 in
theorem w_X1_listAddressNeeds {p : Program} {l : Launch} {e : Env} {s : State} {m : MethodId} {below : List Frame} {meth : Method} {c : Code} {args : Array Value} (dC : Nat → ClassId) (dI : Nat → Nat → Nat) (cI cJ : ClassId) (hI hN n1 hR : Nat) (iop : Int32) (ii : Int32) (ij : Int32) (ik : Int32) (ic : Int32) (ip : Int32) (iu : Int32) (nS : Int32) (nn : Nat → Int32) {w0 : va_W} (C0 : Cx p s m meth c cX1_listAddressNeeds 1 none wsX1_listAddressNeeds RX1 args) (hK : va_K (dC, dI) vwCl [(cI, .int), (cJ, .long)] s) (hZ : Zs false (va_A w0 s.heap.size) s s.heap) (hn : LOk nS nn) (hi : R8 ii) (hj : R8 ij) (hk : R8 ik) {V : Int32 × (Nat → Int32)} (hV : (F_X1_listAddressNeeds iop ii ij ik nS nn ) = V) (ls : Array Slot) (hl : lv_has ls 1 [(0, .ref hI)]) {H : Heap} {locs : List Loc} (hP : va_P (dC, dI) vwCl [(hI, .inr (1, [.int iop, .int ii, .int ij, .int ik, .int ic, .int ip, .int iu, .ref hN, .ref hR])), (hN, .inr (3, [.ref n1, .int nS])), (n1, .inl (cI, 3, .inl nn))] H) (hD : va_D (va_A w0 s.heap.size) [(hI, .inr (1, [.int iop, .int ii, .int ij, .int ik, .int ic, .int ip, .int iu, .ref hN, .ref hR])), (hN, .inr (3, [.ref n1, .int nS])), (n1, .inl (cI, 3, .inl nn))]) (hS : va_S (va_A w0 s.heap.size) s.heap H locs) : W p l e rm_X1_listAddressNeeds s m args below meth c H locs 0 0 (MQ below (QV (dC, dI) [(cI, .int), (cJ, .long)] w0 [(hI, .inr (1, [.int iop, .int ii, .int ij, .int ik, .int ic, .int ip, .int iu, .ref hN, .ref hR])), (hN, .inr (3, [.ref n1, .int V.1])), (n1, .inl (cI, 3, .inl V.2))] s.heap.size) args s 0 0 (va_A w0 s.heap.size)) (F0 m 0 ls []) := by
  obtain ⟨hx, hb, hr, hlk, hml, hown, hts⟩ := id C0
  have hA : ∀ q : Nat, s.heap.size ≤ q → va_A w0 s.heap.size q := fun q h => Or.inr h
  refine lv_aload_n hx hb dX1_listAddressNeeds_0 rfl (lv_at hl 0 rfl) ?_
  refine va_get (D := (dC, dI)) (ci := 1) (v := .int iop) (C := RX1) (T := TX1) (N := 9) hx hb hts mi_X1_listAddressNeeds_X1 hown hK hP 0 rfl rfl 0 (by decide) (hts (.fieldLink RX1 25 "ScoreboardCore$Instruction" "op" "I") mm_X1_listAddressNeeds_f25) (fun _ h9 => h9) rfl dX1_listAddressNeeds_1 ?_
  refine lv_bipush (v := (7 : Int32)) hx hb dX1_listAddressNeeds_4 (by decide) ?_
  refine lv_iand hx hb dX1_listAddressNeeds_6 ?_
  by_cases c1 : (iop &&& (7 : Int32)) = (0 : Int32)
  · refine lv_tableIn (tgt := 44) hx hb dX1_listAddressNeeds_7 (by rw [c1]; decide) (by rw [c1]; decide) (by rw [c1]; rfl) (by decide) ?_
    have e9 : (F_X1_listAddressNeeds iop ii ij ik nS nn ) = (F_X1_listAddressNeeds_44 iop ii ij ik nS nn) := by rw [F_X1_listAddressNeeds, if_pos c1]
    rw [e9] at hV
    exact j_X1_listAddressNeeds_44 dC dI cI cJ hI hN n1 hR iop ii ij ik ic ip iu nS nn C0 hK hZ hn hi hj hk nS nn (by first | exact hn' | exact hn | exact hn'.addX hi | exact hn'.addX hj | exact hn'.addX hk | exact hn'.addA hi | exact hn'.addA hj | exact hn'.addB hi | exact hn'.addB hj | exact hn'.addB hk | exact hn.addX hi | exact hn.addX hj | exact hn.addX hk | exact hn.addA hi | exact hn.addA hj | exact hn.addB hi | exact hn.addB hj | exact hn.addB hk) hV ls (lv_sub hl [0] rfl) hP hD hS
  by_cases c2 : (iop &&& (7 : Int32)) = (1 : Int32)
  · refine lv_tableIn (tgt := 72) hx hb dX1_listAddressNeeds_7 (by rw [c2]; decide) (by rw [c2]; decide) (by rw [c2]; rfl) (by decide) ?_
    have e9 : (F_X1_listAddressNeeds iop ii ij ik nS nn ) = (F_X1_listAddressNeeds_72 iop ii ij ik nS nn) := by rw [F_X1_listAddressNeeds, if_neg c1, if_pos c2]
    rw [e9] at hV
    exact j_X1_listAddressNeeds_72 dC dI cI cJ hI hN n1 hR iop ii ij ik ic ip iu nS nn C0 hK hZ hn hi hj hk nS nn (by first | exact hn' | exact hn | exact hn'.addX hi | exact hn'.addX hj | exact hn'.addX hk | exact hn'.addA hi | exact hn'.addA hj | exact hn'.addB hi | exact hn'.addB hj | exact hn'.addB hk | exact hn.addX hi | exact hn.addX hj | exact hn.addX hk | exact hn.addA hi | exact hn.addA hj | exact hn.addB hi | exact hn.addB hj | exact hn.addB hk) hV ls (lv_sub hl [0] rfl) hP hD hS
  by_cases c3 : (iop &&& (7 : Int32)) = (2 : Int32)
  · refine lv_tableIn (tgt := 58) hx hb dX1_listAddressNeeds_7 (by rw [c3]; decide) (by rw [c3]; decide) (by rw [c3]; rfl) (by decide) ?_
    have e9 : (F_X1_listAddressNeeds iop ii ij ik nS nn ) = (F_X1_listAddressNeeds_58 iop ii ij ik nS nn) := by rw [F_X1_listAddressNeeds, if_neg c1, if_neg c2, if_pos c3]
    rw [e9] at hV
    exact j_X1_listAddressNeeds_58 dC dI cI cJ hI hN n1 hR iop ii ij ik ic ip iu nS nn C0 hK hZ hn hi hj hk nS nn (by first | exact hn' | exact hn | exact hn'.addX hi | exact hn'.addX hj | exact hn'.addX hk | exact hn'.addA hi | exact hn'.addA hj | exact hn'.addB hi | exact hn'.addB hj | exact hn'.addB hk | exact hn.addX hi | exact hn.addX hj | exact hn.addX hk | exact hn.addA hi | exact hn.addA hj | exact hn.addB hi | exact hn.addB hj | exact hn.addB hk) hV ls (lv_sub hl [0] rfl) hP hD hS
  by_cases c4 : (iop &&& (7 : Int32)) = (3 : Int32)
  · refine lv_tableIn (tgt := 58) hx hb dX1_listAddressNeeds_7 (by rw [c4]; decide) (by rw [c4]; decide) (by rw [c4]; rfl) (by decide) ?_
    have e9 : (F_X1_listAddressNeeds iop ii ij ik nS nn ) = (F_X1_listAddressNeeds_58 iop ii ij ik nS nn) := by rw [F_X1_listAddressNeeds, if_neg c1, if_neg c2, if_neg c3, if_pos c4]
    rw [e9] at hV
    exact j_X1_listAddressNeeds_58 dC dI cI cJ hI hN n1 hR iop ii ij ik ic ip iu nS nn C0 hK hZ hn hi hj hk nS nn (by first | exact hn' | exact hn | exact hn'.addX hi | exact hn'.addX hj | exact hn'.addX hk | exact hn'.addA hi | exact hn'.addA hj | exact hn'.addB hi | exact hn'.addB hj | exact hn'.addB hk | exact hn.addX hi | exact hn.addX hj | exact hn.addX hk | exact hn.addA hi | exact hn.addA hj | exact hn.addB hi | exact hn.addB hj | exact hn.addB hk) hV ls (lv_sub hl [0] rfl) hP hD hS
  by_cases c5 : (iop &&& (7 : Int32)) = (4 : Int32)
  · refine lv_tableIn (tgt := 44) hx hb dX1_listAddressNeeds_7 (by rw [c5]; decide) (by rw [c5]; decide) (by rw [c5]; rfl) (by decide) ?_
    have e9 : (F_X1_listAddressNeeds iop ii ij ik nS nn ) = (F_X1_listAddressNeeds_44 iop ii ij ik nS nn) := by rw [F_X1_listAddressNeeds, if_neg c1, if_neg c2, if_neg c3, if_neg c4, if_pos c5]
    rw [e9] at hV
    exact j_X1_listAddressNeeds_44 dC dI cI cJ hI hN n1 hR iop ii ij ik ic ip iu nS nn C0 hK hZ hn hi hj hk nS nn (by first | exact hn' | exact hn | exact hn'.addX hi | exact hn'.addX hj | exact hn'.addX hk | exact hn'.addA hi | exact hn'.addA hj | exact hn'.addB hi | exact hn'.addB hj | exact hn'.addB hk | exact hn.addX hi | exact hn.addX hj | exact hn.addX hk | exact hn.addA hi | exact hn.addA hj | exact hn.addB hi | exact hn.addB hj | exact hn.addB hk) hV ls (lv_sub hl [0] rfl) hP hD hS
  by_cases c6 : (iop &&& (7 : Int32)) = (5 : Int32)
  · refine lv_tableIn (tgt := 44) hx hb dX1_listAddressNeeds_7 (by rw [c6]; decide) (by rw [c6]; decide) (by rw [c6]; rfl) (by decide) ?_
    have e9 : (F_X1_listAddressNeeds iop ii ij ik nS nn ) = (F_X1_listAddressNeeds_44 iop ii ij ik nS nn) := by rw [F_X1_listAddressNeeds, if_neg c1, if_neg c2, if_neg c3, if_neg c4, if_neg c5, if_pos c6]
    rw [e9] at hV
    exact j_X1_listAddressNeeds_44 dC dI cI cJ hI hN n1 hR iop ii ij ik ic ip iu nS nn C0 hK hZ hn hi hj hk nS nn (by first | exact hn' | exact hn | exact hn'.addX hi | exact hn'.addX hj | exact hn'.addX hk | exact hn'.addA hi | exact hn'.addA hj | exact hn'.addB hi | exact hn'.addB hj | exact hn'.addB hk | exact hn.addX hi | exact hn.addX hj | exact hn.addX hk | exact hn.addA hi | exact hn.addA hj | exact hn.addB hi | exact hn.addB hj | exact hn.addB hk) hV ls (lv_sub hl [0] rfl) hP hD hS
  refine lv_tableOut (tgt := 72) hx hb dX1_listAddressNeeds_7 (by have q0 := lv_neT (a := 0) c1 (by decide); have q1 := lv_neT (a := 1) c2 (by decide); have q2 := lv_neT (a := 2) c3 (by decide); have q3 := lv_neT (a := 3) c4 (by decide); have q4 := lv_neT (a := 4) c5 (by decide); have q5 := lv_neT (a := 5) c6 (by decide); omega) (by decide) ?_
  have e9 : (F_X1_listAddressNeeds iop ii ij ik nS nn ) = (F_X1_listAddressNeeds_72 iop ii ij ik nS nn) := by rw [F_X1_listAddressNeeds, if_neg c1, if_neg c2, if_neg c3, if_neg c4, if_neg c5, if_neg c6]
  rw [e9] at hV
  exact j_X1_listAddressNeeds_72 dC dI cI cJ hI hN n1 hR iop ii ij ik ic ip iu nS nn C0 hK hZ hn hi hj hk nS nn (by first | exact hn' | exact hn | exact hn'.addX hi | exact hn'.addX hj | exact hn'.addX hk | exact hn'.addA hi | exact hn'.addA hj | exact hn'.addB hi | exact hn'.addB hj | exact hn'.addB hk | exact hn.addX hi | exact hn.addX hj | exact hn.addX hk | exact hn.addA hi | exact hn.addA hj | exact hn.addB hi | exact hn.addB hj | exact hn.addB hk) hV ls (lv_sub hl [0] rfl) hP hD hS
theorem c_X1_listAddressNeeds (l : Launch) (dC : Nat → ClassId) (dI : Nat → Nat → Nat) (cI cJ : ClassId) (hI hN n1 hR : Nat) (iop : Int32) (ii : Int32) (ij : Int32) (ik : Int32) (ic : Int32) (ip : Int32) (iu : Int32) (nS : Int32) (nn : Nat → Int32) (hn : LOk nS nn) (hi : R8 ii) (hj : R8 ij) (hk : R8 ik) : WrV false l yX1_listAddressNeeds wsX1_listAddressNeeds rm_X1_listAddressNeeds (dC, dI) [(cI, .int), (cJ, .long)] [(hI, .inr (1, [.int iop, .int ii, .int ij, .int ik, .int ic, .int ip, .int iu, .ref hN, .ref hR])), (hN, .inr (3, [.ref n1, .int nS])), (n1, .inl (cI, 3, .inl nn))] [(hI, .inr (1, [.int iop, .int ii, .int ij, .int ik, .int ic, .int ip, .int iu, .ref hN, .ref hR])), (hN, .inr (3, [.ref n1, .int ((F_X1_listAddressNeeds iop ii ij ik nS nn ).1)])), (n1, .inl (cI, 3, .inl ((F_X1_listAddressNeeds iop ii ij ik nS nn ).2)))] [.ref hI] := by
  refine WrV.mk (cc := cX1_listAddressNeeds) (nL := 1) (ret := none) [(0, .ref hI)] (by decide) rfl (Nat.le_of_ble_eq_true rfl) rfl ?_
  intro p e s m below meth c C0 hP hK hD hS hZ ls hl
  exact w_X1_listAddressNeeds dC dI cI cJ hI hN n1 hR iop ii ij ik ic ip iu nS nn C0 hK hZ hn hi hj hk rfl ls hl hP hD hS

-- X1_listJumpNeeds
def F_X1_listJumpNeeds (iop : Int32) (ii : Int32) (ij : Int32) (nS : Int32) (nn : Nat → Int32) : Int32 × (Nat → Int32) :=
  (if iop = (3 : Int32) then (((F_X5_addX ij nS nn).1), ((F_X5_addX ij nS nn).2)) else (if iop = (2 : Int32) then (((F_X5_addB ii nS nn).1), ((F_X5_addB ii nS nn).2)) else (if iop < (4 : Int32) then (nS, nn) else (if (7 : Int32) < iop then (nS, nn) else (((F_X5_addB ij ((F_X5_addB ii nS nn).1) ((F_X5_addB ii nS nn).2)).1), ((F_X5_addB ij ((F_X5_addB ii nS nn).1) ((F_X5_addB ii nS nn).2)).2))))))
abbrev rm_X1_listJumpNeeds : Room := { frames := 2, cells := 0, slots := 0, locals := 42 }
set_option maxRecDepth 20000 in
theorem mi_X1_listJumpNeeds_X1 : ∀ w ∈ wsX10, w ∈ wsX1_listJumpNeeds := by decide +kernel
set_option maxRecDepth 20000 in
theorem mm_X1_listJumpNeeds_f14 : Cond.fieldLink RX1 14 "ScoreboardCore$Instruction" "needs" "LScoreboardCore$RegisterList;" ∈ wsX1_listJumpNeeds := by decide +kernel
set_option maxRecDepth 20000 in
theorem mm_X1_listJumpNeeds_f25 : Cond.fieldLink RX1 25 "ScoreboardCore$Instruction" "op" "I" ∈ wsX1_listJumpNeeds := by decide +kernel
set_option maxRecDepth 20000 in
theorem mm_X1_listJumpNeeds_f28 : Cond.fieldLink RX1 28 "ScoreboardCore$Instruction" "i" "I" ∈ wsX1_listJumpNeeds := by decide +kernel
set_option maxRecDepth 20000 in
theorem mm_X1_listJumpNeeds_f31 : Cond.fieldLink RX1 31 "ScoreboardCore$Instruction" "j" "I" ∈ wsX1_listJumpNeeds := by decide +kernel
set_option maxRecDepth 20000 in
theorem mm_X1_listJumpNeeds_iX5 : Cond.initialized RX5 ∈ wsX1_listJumpNeeds := by decide +kernel
set_option maxRecDepth 20000 in
theorem mm_X1_listJumpNeeds_l71 : Cond.methodLink RX1 71 yX5_addX ∈ wsX1_listJumpNeeds := by decide +kernel
set_option maxRecDepth 20000 in
theorem mm_X1_listJumpNeeds_l81 : Cond.methodLink RX1 81 yX5_addB ∈ wsX1_listJumpNeeds := by decide +kernel
set_option maxRecDepth 20000 in
theorem mm_X1_listJumpNeeds_nX5_addB : Cond.instanceMethod yX5_addB ∈ wsX1_listJumpNeeds := by decide +kernel
set_option maxRecDepth 20000 in
theorem mm_X1_listJumpNeeds_nX5_addX : Cond.instanceMethod yX5_addX ∈ wsX1_listJumpNeeds := by decide +kernel
set_option maxRecDepth 20000 in
theorem mm_X1_listJumpNeeds_sX5_addB : Cond.selects RX5 yX5_addB yX5_addB ∈ wsX1_listJumpNeeds := by decide +kernel
set_option maxRecDepth 20000 in
theorem mm_X1_listJumpNeeds_sX5_addX : Cond.selects RX5 yX5_addX yX5_addX ∈ wsX1_listJumpNeeds := by decide +kernel
set_option maxHeartbeats 4000000 in
set_option maxRecDepth 100000 in
theorem w_X1_listJumpNeeds {p : Program} {l : Launch} {e : Env} {s : State} {m : MethodId} {below : List Frame} {meth : Method} {c : Code} {args : Array Value} (dC : Nat → ClassId) (dI : Nat → Nat → Nat) (cI cJ : ClassId) (hI hN n1 hR : Nat) (iop : Int32) (ii : Int32) (ij : Int32) (ik : Int32) (ic : Int32) (ip : Int32) (iu : Int32) (nS : Int32) (nn : Nat → Int32) {w0 : va_W} (C0 : Cx p s m meth c cX1_listJumpNeeds 1 none wsX1_listJumpNeeds RX1 args) (hK : va_K (dC, dI) vwCl [(cI, .int), (cJ, .long)] s) (hZ : Zs false (va_A w0 s.heap.size) s s.heap) (hn : LOk nS nn) (hi : R8 ii) (hj : R8 ij) (hk : R8 ik) {V : Int32 × (Nat → Int32)} (hV : (F_X1_listJumpNeeds iop ii ij nS nn ) = V) (ls : Array Slot) (hl : lv_has ls 1 [(0, .ref hI)]) {H : Heap} {locs : List Loc} (hP : va_P (dC, dI) vwCl [(hI, .inr (1, [.int iop, .int ii, .int ij, .int ik, .int ic, .int ip, .int iu, .ref hN, .ref hR])), (hN, .inr (3, [.ref n1, .int nS])), (n1, .inl (cI, 3, .inl nn))] H) (hD : va_D (va_A w0 s.heap.size) [(hI, .inr (1, [.int iop, .int ii, .int ij, .int ik, .int ic, .int ip, .int iu, .ref hN, .ref hR])), (hN, .inr (3, [.ref n1, .int nS])), (n1, .inl (cI, 3, .inl nn))]) (hS : va_S (va_A w0 s.heap.size) s.heap H locs) : W p l e rm_X1_listJumpNeeds s m args below meth c H locs 0 0 (MQ below (QV (dC, dI) [(cI, .int), (cJ, .long)] w0 [(hI, .inr (1, [.int iop, .int ii, .int ij, .int ik, .int ic, .int ip, .int iu, .ref hN, .ref hR])), (hN, .inr (3, [.ref n1, .int V.1])), (n1, .inl (cI, 3, .inl V.2))] s.heap.size) args s 0 0 (va_A w0 s.heap.size)) (F0 m 0 ls []) := by
  obtain ⟨hx, hb, hr, hlk, hml, hown, hts⟩ := id C0
  have hA : ∀ q : Nat, s.heap.size ≤ q → va_A w0 s.heap.size q := fun q h => Or.inr h
  refine lv_aload_n hx hb dX1_listJumpNeeds_0 rfl (lv_at hl 0 rfl) ?_
  refine va_get (D := (dC, dI)) (ci := 1) (v := .int iop) (C := RX1) (T := TX1) (N := 9) hx hb hts mi_X1_listJumpNeeds_X1 hown hK hP 0 rfl rfl 0 (by decide) (hts (.fieldLink RX1 25 "ScoreboardCore$Instruction" "op" "I") mm_X1_listJumpNeeds_f25) (fun _ h9 => h9) rfl dX1_listJumpNeeds_1 ?_
  refine lv_iconst (v := (3 : Int32)) hx hb dX1_listJumpNeeds_4 (by decide) ?_
  refine lv_icmp_ne (x := iop) (y := (3 : Int32)) (tgt := 22) hx hb dX1_listJumpNeeds_5 (by decide) (fun c1 => ?_) (fun c1 => ?_)
  · refine lv_aload_n hx hb dX1_listJumpNeeds_22 rfl (lv_at hl 0 rfl) ?_
    refine va_get (D := (dC, dI)) (ci := 1) (v := .int iop) (C := RX1) (T := TX1) (N := 9) hx hb hts mi_X1_listJumpNeeds_X1 hown hK hP 0 rfl rfl 0 (by decide) (hts (.fieldLink RX1 25 "ScoreboardCore$Instruction" "op" "I") mm_X1_listJumpNeeds_f25) (fun _ h9 => h9) rfl dX1_listJumpNeeds_23 ?_
    refine lv_iconst (v := (2 : Int32)) hx hb dX1_listJumpNeeds_26 (by decide) ?_
    refine lv_icmp_ne (x := iop) (y := (2 : Int32)) (tgt := 44) hx hb dX1_listJumpNeeds_27 (by decide) (fun c2 => ?_) (fun c2 => ?_)
    · refine lv_aload_n hx hb dX1_listJumpNeeds_44 rfl (lv_at hl 0 rfl) ?_
      refine va_get (D := (dC, dI)) (ci := 1) (v := .int iop) (C := RX1) (T := TX1) (N := 9) hx hb hts mi_X1_listJumpNeeds_X1 hown hK hP 0 rfl rfl 0 (by decide) (hts (.fieldLink RX1 25 "ScoreboardCore$Instruction" "op" "I") mm_X1_listJumpNeeds_f25) (fun _ h9 => h9) rfl dX1_listJumpNeeds_45 ?_
      refine lv_iconst (v := (4 : Int32)) hx hb dX1_listJumpNeeds_48 (by decide) ?_
      refine lv_icmp_lt (x := iop) (y := (4 : Int32)) (tgt := 83) hx hb dX1_listJumpNeeds_49 (by decide) (fun c3 => ?_) (fun c3 => ?_)
      · have e9 : (F_X1_listJumpNeeds iop ii ij nS nn ) = (nS, nn) := by rw [F_X1_listJumpNeeds, if_neg c1, if_neg c2, if_pos c3]
        rw [e9] at hV
        subst hV
        exact wrRetV C0 hK hP hD hS dX1_listJumpNeeds_83
      · refine lv_aload_n hx hb dX1_listJumpNeeds_52 rfl (lv_at hl 0 rfl) ?_
        refine va_get (D := (dC, dI)) (ci := 1) (v := .int iop) (C := RX1) (T := TX1) (N := 9) hx hb hts mi_X1_listJumpNeeds_X1 hown hK hP 0 rfl rfl 0 (by decide) (hts (.fieldLink RX1 25 "ScoreboardCore$Instruction" "op" "I") mm_X1_listJumpNeeds_f25) (fun _ h9 => h9) rfl dX1_listJumpNeeds_53 ?_
        refine lv_bipush (v := (7 : Int32)) hx hb dX1_listJumpNeeds_56 (by decide) ?_
        refine lv_icmp_gt (x := iop) (y := (7 : Int32)) (tgt := 83) hx hb dX1_listJumpNeeds_58 (by decide) (fun c4 => ?_) (fun c4 => ?_)
        · have e9 : (F_X1_listJumpNeeds iop ii ij nS nn ) = (nS, nn) := by rw [F_X1_listJumpNeeds, if_neg c1, if_neg c2, if_neg c3, if_pos c4]
          rw [e9] at hV
          subst hV
          exact wrRetV C0 hK hP hD hS dX1_listJumpNeeds_83
        · refine lv_aload_n hx hb dX1_listJumpNeeds_61 rfl (lv_at hl 0 rfl) ?_
          refine va_get (D := (dC, dI)) (ci := 1) (v := .ref hN) (C := RX1) (T := TX1) (N := 9) hx hb hts mi_X1_listJumpNeeds_X1 hown hK hP 0 rfl rfl 7 (by decide) (hts (.fieldLink RX1 14 "ScoreboardCore$Instruction" "needs" "LScoreboardCore$RegisterList;") mm_X1_listJumpNeeds_f14) (fun _ h9 => h9) rfl dX1_listJumpNeeds_62 ?_
          refine lv_aload_n hx hb dX1_listJumpNeeds_65 rfl (lv_at hl 0 rfl) ?_
          refine va_get (D := (dC, dI)) (ci := 1) (v := .int ii) (C := RX1) (T := TX1) (N := 9) hx hb hts mi_X1_listJumpNeeds_X1 hown hK hP 0 rfl rfl 1 (by decide) (hts (.fieldLink RX1 28 "ScoreboardCore$Instruction" "i" "I") mm_X1_listJumpNeeds_f28) (fun _ h9 => h9) rfl dX1_listJumpNeeds_66 ?_
          refine wrVv (As := [.int ii]) (rest := []) (bytes := cX5_addB) (maxL := 2) (rty := none) (n := 1) (ci := 3) C0 (c_X5_addB l dC dI cI cJ hN n1 ii nS nn (by first | exact hn' | exact hn | exact hn'.addX hi | exact hn'.addX hj | exact hn'.addX hk | exact hn'.addA hi | exact hn'.addA hj | exact hn'.addB hi | exact hn'.addB hj | exact hn'.addB hk | exact hn.addX hi | exact hn.addX hj | exact hn.addX hk | exact hn.addA hi | exact hn.addA hj | exact hn.addB hi | exact hn.addB hj | exact hn.addB hk)) ⟨rfl, rfl, rfl, by decide +kernel, by decide, by decide⟩ ggX1_listJumpNeeds_X5_addB mm_X1_listJumpNeeds_iX5 mm_X1_listJumpNeeds_l81 mm_X1_listJumpNeeds_nX5_addB mm_X1_listJumpNeeds_sX5_addB rfl rfl hP hD hK hS hA (Zs.no _ _ _) [1, 2] [0] [0, 1, 2] [(hI, .inr (1, [.int iop, .int ii, .int ij, .int ik, .int ic, .int ip, .int iu, .ref hN, .ref hR]))] [(hI, .inr (1, [.int iop, .int ii, .int ij, .int ik, .int ic, .int ip, .int iu, .ref hN, .ref hR])), (hN, .inr (3, [.ref n1, .int ((F_X5_addB ii nS nn).1)])), (n1, .inl (cI, 3, .inl ((F_X5_addB ii nS nn).2)))] rfl (by decide) (hP.sub (ws' := [(hN, .inr (3, [.ref n1, .int nS])), (n1, .inl (cI, 3, .inl nn))]) [1, 2] rfl) rfl (by decide) (by decide) (by decide) rfl hl.1 rfl rfl (Nat.le_of_ble_eq_true rfl) dX1_listJumpNeeds_69 ⟨Nat.zero_le _, Nat.zero_le _⟩ (fun H locs hP hD hS => ?_)
          refine lv_aload_n hx hb dX1_listJumpNeeds_72 rfl (lv_at hl 0 rfl) ?_
          refine va_get (D := (dC, dI)) (ci := 1) (v := .ref hN) (C := RX1) (T := TX1) (N := 9) hx hb hts mi_X1_listJumpNeeds_X1 hown hK hP 0 rfl rfl 7 (by decide) (hts (.fieldLink RX1 14 "ScoreboardCore$Instruction" "needs" "LScoreboardCore$RegisterList;") mm_X1_listJumpNeeds_f14) (fun _ h9 => h9) rfl dX1_listJumpNeeds_73 ?_
          refine lv_aload_n hx hb dX1_listJumpNeeds_76 rfl (lv_at hl 0 rfl) ?_
          refine va_get (D := (dC, dI)) (ci := 1) (v := .int ij) (C := RX1) (T := TX1) (N := 9) hx hb hts mi_X1_listJumpNeeds_X1 hown hK hP 0 rfl rfl 2 (by decide) (hts (.fieldLink RX1 31 "ScoreboardCore$Instruction" "j" "I") mm_X1_listJumpNeeds_f31) (fun _ h9 => h9) rfl dX1_listJumpNeeds_77 ?_
          refine wrVv (As := [.int ij]) (rest := []) (bytes := cX5_addB) (maxL := 2) (rty := none) (n := 1) (ci := 3) C0 (c_X5_addB l dC dI cI cJ hN n1 ij ((F_X5_addB ii nS nn).1) ((F_X5_addB ii nS nn).2) (by first | exact hn' | exact hn | exact hn'.addX hi | exact hn'.addX hj | exact hn'.addX hk | exact hn'.addA hi | exact hn'.addA hj | exact hn'.addB hi | exact hn'.addB hj | exact hn'.addB hk | exact hn.addX hi | exact hn.addX hj | exact hn.addX hk | exact hn.addA hi | exact hn.addA hj | exact hn.addB hi | exact hn.addB hj | exact hn.addB hk)) ⟨rfl, rfl, rfl, by decide +kernel, by decide, by decide⟩ ggX1_listJumpNeeds_X5_addB mm_X1_listJumpNeeds_iX5 mm_X1_listJumpNeeds_l81 mm_X1_listJumpNeeds_nX5_addB mm_X1_listJumpNeeds_sX5_addB rfl rfl hP hD hK hS hA (Zs.no _ _ _) [1, 2] [0] [0, 1, 2] [(hI, .inr (1, [.int iop, .int ii, .int ij, .int ik, .int ic, .int ip, .int iu, .ref hN, .ref hR]))] [(hI, .inr (1, [.int iop, .int ii, .int ij, .int ik, .int ic, .int ip, .int iu, .ref hN, .ref hR])), (hN, .inr (3, [.ref n1, .int ((F_X5_addB ij ((F_X5_addB ii nS nn).1) ((F_X5_addB ii nS nn).2)).1)])), (n1, .inl (cI, 3, .inl ((F_X5_addB ij ((F_X5_addB ii nS nn).1) ((F_X5_addB ii nS nn).2)).2)))] rfl (by decide) (hP.sub (ws' := [(hN, .inr (3, [.ref n1, .int ((F_X5_addB ii nS nn).1)])), (n1, .inl (cI, 3, .inl ((F_X5_addB ii nS nn).2)))]) [1, 2] rfl) rfl (by decide) (by decide) (by decide) rfl hl.1 rfl rfl (Nat.le_of_ble_eq_true rfl) dX1_listJumpNeeds_80 ⟨Nat.zero_le _, Nat.zero_le _⟩ (fun H locs hP hD hS => ?_)
          have e9 : (F_X1_listJumpNeeds iop ii ij nS nn ) = (((F_X5_addB ij ((F_X5_addB ii nS nn).1) ((F_X5_addB ii nS nn).2)).1), ((F_X5_addB ij ((F_X5_addB ii nS nn).1) ((F_X5_addB ii nS nn).2)).2)) := by rw [F_X1_listJumpNeeds, if_neg c1, if_neg c2, if_neg c3, if_neg c4]
          rw [e9] at hV
          subst hV
          exact wrRetV C0 hK hP hD hS dX1_listJumpNeeds_83
    · refine lv_aload_n hx hb dX1_listJumpNeeds_30 rfl (lv_at hl 0 rfl) ?_
      refine va_get (D := (dC, dI)) (ci := 1) (v := .ref hN) (C := RX1) (T := TX1) (N := 9) hx hb hts mi_X1_listJumpNeeds_X1 hown hK hP 0 rfl rfl 7 (by decide) (hts (.fieldLink RX1 14 "ScoreboardCore$Instruction" "needs" "LScoreboardCore$RegisterList;") mm_X1_listJumpNeeds_f14) (fun _ h9 => h9) rfl dX1_listJumpNeeds_31 ?_
      refine lv_aload_n hx hb dX1_listJumpNeeds_34 rfl (lv_at hl 0 rfl) ?_
      refine va_get (D := (dC, dI)) (ci := 1) (v := .int ii) (C := RX1) (T := TX1) (N := 9) hx hb hts mi_X1_listJumpNeeds_X1 hown hK hP 0 rfl rfl 1 (by decide) (hts (.fieldLink RX1 28 "ScoreboardCore$Instruction" "i" "I") mm_X1_listJumpNeeds_f28) (fun _ h9 => h9) rfl dX1_listJumpNeeds_35 ?_
      refine wrVv (As := [.int ii]) (rest := []) (bytes := cX5_addB) (maxL := 2) (rty := none) (n := 1) (ci := 3) C0 (c_X5_addB l dC dI cI cJ hN n1 ii nS nn (by first | exact hn' | exact hn | exact hn'.addX hi | exact hn'.addX hj | exact hn'.addX hk | exact hn'.addA hi | exact hn'.addA hj | exact hn'.addB hi | exact hn'.addB hj | exact hn'.addB hk | exact hn.addX hi | exact hn.addX hj | exact hn.addX hk | exact hn.addA hi | exact hn.addA hj | exact hn.addB hi | exact hn.addB hj | exact hn.addB hk)) ⟨rfl, rfl, rfl, by decide +kernel, by decide, by decide⟩ ggX1_listJumpNeeds_X5_addB mm_X1_listJumpNeeds_iX5 mm_X1_listJumpNeeds_l81 mm_X1_listJumpNeeds_nX5_addB mm_X1_listJumpNeeds_sX5_addB rfl rfl hP hD hK hS hA (Zs.no _ _ _) [1, 2] [0] [0, 1, 2] [(hI, .inr (1, [.int iop, .int ii, .int ij, .int ik, .int ic, .int ip, .int iu, .ref hN, .ref hR]))] [(hI, .inr (1, [.int iop, .int ii, .int ij, .int ik, .int ic, .int ip, .int iu, .ref hN, .ref hR])), (hN, .inr (3, [.ref n1, .int ((F_X5_addB ii nS nn).1)])), (n1, .inl (cI, 3, .inl ((F_X5_addB ii nS nn).2)))] rfl (by decide) (hP.sub (ws' := [(hN, .inr (3, [.ref n1, .int nS])), (n1, .inl (cI, 3, .inl nn))]) [1, 2] rfl) rfl (by decide) (by decide) (by decide) rfl hl.1 rfl rfl (Nat.le_of_ble_eq_true rfl) dX1_listJumpNeeds_38 ⟨Nat.zero_le _, Nat.zero_le _⟩ (fun H locs hP hD hS => ?_)
      refine lv_goto (tgt := 83) hx hb dX1_listJumpNeeds_41 (by decide) ?_
      have e9 : (F_X1_listJumpNeeds iop ii ij nS nn ) = (((F_X5_addB ii nS nn).1), ((F_X5_addB ii nS nn).2)) := by rw [F_X1_listJumpNeeds, if_neg c1, if_pos c2]
      rw [e9] at hV
      subst hV
      exact wrRetV C0 hK hP hD hS dX1_listJumpNeeds_83
  · refine lv_aload_n hx hb dX1_listJumpNeeds_8 rfl (lv_at hl 0 rfl) ?_
    refine va_get (D := (dC, dI)) (ci := 1) (v := .ref hN) (C := RX1) (T := TX1) (N := 9) hx hb hts mi_X1_listJumpNeeds_X1 hown hK hP 0 rfl rfl 7 (by decide) (hts (.fieldLink RX1 14 "ScoreboardCore$Instruction" "needs" "LScoreboardCore$RegisterList;") mm_X1_listJumpNeeds_f14) (fun _ h9 => h9) rfl dX1_listJumpNeeds_9 ?_
    refine lv_aload_n hx hb dX1_listJumpNeeds_12 rfl (lv_at hl 0 rfl) ?_
    refine va_get (D := (dC, dI)) (ci := 1) (v := .int ij) (C := RX1) (T := TX1) (N := 9) hx hb hts mi_X1_listJumpNeeds_X1 hown hK hP 0 rfl rfl 2 (by decide) (hts (.fieldLink RX1 31 "ScoreboardCore$Instruction" "j" "I") mm_X1_listJumpNeeds_f31) (fun _ h9 => h9) rfl dX1_listJumpNeeds_13 ?_
    refine wrVv (As := [.int ij]) (rest := []) (bytes := cX5_addX) (maxL := 2) (rty := none) (n := 1) (ci := 3) C0 (c_X5_addX l dC dI cI cJ hN n1 ij nS nn (by first | exact hn' | exact hn | exact hn'.addX hi | exact hn'.addX hj | exact hn'.addX hk | exact hn'.addA hi | exact hn'.addA hj | exact hn'.addB hi | exact hn'.addB hj | exact hn'.addB hk | exact hn.addX hi | exact hn.addX hj | exact hn.addX hk | exact hn.addA hi | exact hn.addA hj | exact hn.addB hi | exact hn.addB hj | exact hn.addB hk)) ⟨rfl, rfl, rfl, by decide +kernel, by decide, by decide⟩ ggX1_listJumpNeeds_X5_addX mm_X1_listJumpNeeds_iX5 mm_X1_listJumpNeeds_l71 mm_X1_listJumpNeeds_nX5_addX mm_X1_listJumpNeeds_sX5_addX rfl rfl hP hD hK hS hA (Zs.no _ _ _) [1, 2] [0] [0, 1, 2] [(hI, .inr (1, [.int iop, .int ii, .int ij, .int ik, .int ic, .int ip, .int iu, .ref hN, .ref hR]))] [(hI, .inr (1, [.int iop, .int ii, .int ij, .int ik, .int ic, .int ip, .int iu, .ref hN, .ref hR])), (hN, .inr (3, [.ref n1, .int ((F_X5_addX ij nS nn).1)])), (n1, .inl (cI, 3, .inl ((F_X5_addX ij nS nn).2)))] rfl (by decide) (hP.sub (ws' := [(hN, .inr (3, [.ref n1, .int nS])), (n1, .inl (cI, 3, .inl nn))]) [1, 2] rfl) rfl (by decide) (by decide) (by decide) rfl hl.1 rfl rfl (Nat.le_of_ble_eq_true rfl) dX1_listJumpNeeds_16 ⟨Nat.zero_le _, Nat.zero_le _⟩ (fun H locs hP hD hS => ?_)
    refine lv_goto (tgt := 83) hx hb dX1_listJumpNeeds_19 (by decide) ?_
    have e9 : (F_X1_listJumpNeeds iop ii ij nS nn ) = (((F_X5_addX ij nS nn).1), ((F_X5_addX ij nS nn).2)) := by rw [F_X1_listJumpNeeds, if_pos c1]
    rw [e9] at hV
    subst hV
    exact wrRetV C0 hK hP hD hS dX1_listJumpNeeds_83
theorem c_X1_listJumpNeeds (l : Launch) (dC : Nat → ClassId) (dI : Nat → Nat → Nat) (cI cJ : ClassId) (hI hN n1 hR : Nat) (iop : Int32) (ii : Int32) (ij : Int32) (ik : Int32) (ic : Int32) (ip : Int32) (iu : Int32) (nS : Int32) (nn : Nat → Int32) (hn : LOk nS nn) (hi : R8 ii) (hj : R8 ij) (hk : R8 ik) : WrV false l yX1_listJumpNeeds wsX1_listJumpNeeds rm_X1_listJumpNeeds (dC, dI) [(cI, .int), (cJ, .long)] [(hI, .inr (1, [.int iop, .int ii, .int ij, .int ik, .int ic, .int ip, .int iu, .ref hN, .ref hR])), (hN, .inr (3, [.ref n1, .int nS])), (n1, .inl (cI, 3, .inl nn))] [(hI, .inr (1, [.int iop, .int ii, .int ij, .int ik, .int ic, .int ip, .int iu, .ref hN, .ref hR])), (hN, .inr (3, [.ref n1, .int ((F_X1_listJumpNeeds iop ii ij nS nn ).1)])), (n1, .inl (cI, 3, .inl ((F_X1_listJumpNeeds iop ii ij nS nn ).2)))] [.ref hI] := by
  refine WrV.mk (cc := cX1_listJumpNeeds) (nL := 1) (ret := none) [(0, .ref hI)] (by decide) rfl (Nat.le_of_ble_eq_true rfl) rfl ?_
  intro p e s m below meth c C0 hP hK hD hS hZ ls hl
  exact w_X1_listJumpNeeds dC dI cI cJ hI hN n1 hR iop ii ij ik ic ip iu nS nn C0 hK hZ hn hi hj hk rfl ls hl hP hD hS

-- X1_listResults
def F_X1_listResults (iop : Int32) (ii : Int32) (iu : Int32) (rS : Int32) (rr : Nat → Int32) : Int32 × (Nat → Int32) :=
  (if iu = (-1 : Int32) then (rS, rr) else (if (iop >>> ((3 : Int32) &&& 31)) = (5 : Int32) then (if (F_X1_loads iop ii) = 0 then (((F_X5_addA ii rS rr).1), ((F_X5_addA ii rS rr).2)) else (((F_X5_addX ii ((F_X5_addA ii rS rr).1) ((F_X5_addA ii rS rr).2)).1), ((F_X5_addX ii ((F_X5_addA ii rS rr).1) ((F_X5_addA ii rS rr).2)).2))) else (if (iop >>> ((3 : Int32) &&& 31)) = (6 : Int32) then (((F_X5_addB ii rS rr).1), ((F_X5_addB ii rS rr).2)) else (((F_X5_addX ii rS rr).1), ((F_X5_addX ii rS rr).2)))))
abbrev rm_X1_listResults : Room := { frames := 2, cells := 0, slots := 0, locals := 42 }
set_option maxRecDepth 20000 in
theorem mi_X1_listResults_X1 : ∀ w ∈ wsX10, w ∈ wsX1_listResults := by decide +kernel
set_option maxRecDepth 20000 in
theorem mm_X1_listResults_f18 : Cond.fieldLink RX1 18 "ScoreboardCore$Instruction" "results" "LScoreboardCore$RegisterList;" ∈ wsX1_listResults := by decide +kernel
set_option maxRecDepth 20000 in
theorem mm_X1_listResults_f25 : Cond.fieldLink RX1 25 "ScoreboardCore$Instruction" "op" "I" ∈ wsX1_listResults := by decide +kernel
set_option maxRecDepth 20000 in
theorem mm_X1_listResults_f28 : Cond.fieldLink RX1 28 "ScoreboardCore$Instruction" "i" "I" ∈ wsX1_listResults := by decide +kernel
set_option maxRecDepth 20000 in
theorem mm_X1_listResults_f45 : Cond.fieldLink RX1 45 "ScoreboardCore$Instruction" "unit" "I" ∈ wsX1_listResults := by decide +kernel
set_option maxRecDepth 20000 in
theorem mm_X1_listResults_iX1 : Cond.initialized RX1 ∈ wsX1_listResults := by decide +kernel
set_option maxRecDepth 20000 in
theorem mm_X1_listResults_iX5 : Cond.initialized RX5 ∈ wsX1_listResults := by decide +kernel
set_option maxRecDepth 20000 in
theorem mm_X1_listResults_l71 : Cond.methodLink RX1 71 yX5_addX ∈ wsX1_listResults := by decide +kernel
set_option maxRecDepth 20000 in
theorem mm_X1_listResults_l81 : Cond.methodLink RX1 81 yX5_addB ∈ wsX1_listResults := by decide +kernel
set_option maxRecDepth 20000 in
theorem mm_X1_listResults_l84 : Cond.methodLink RX1 84 yX5_addA ∈ wsX1_listResults := by decide +kernel
set_option maxRecDepth 20000 in
theorem mm_X1_listResults_l90 : Cond.methodLink RX1 90 yX1_loads ∈ wsX1_listResults := by decide +kernel
set_option maxRecDepth 20000 in
theorem mm_X1_listResults_nX1_loads : Cond.instanceMethod yX1_loads ∈ wsX1_listResults := by decide +kernel
set_option maxRecDepth 20000 in
theorem mm_X1_listResults_nX5_addA : Cond.instanceMethod yX5_addA ∈ wsX1_listResults := by decide +kernel
set_option maxRecDepth 20000 in
theorem mm_X1_listResults_nX5_addB : Cond.instanceMethod yX5_addB ∈ wsX1_listResults := by decide +kernel
set_option maxRecDepth 20000 in
theorem mm_X1_listResults_nX5_addX : Cond.instanceMethod yX5_addX ∈ wsX1_listResults := by decide +kernel
set_option maxRecDepth 20000 in
theorem mm_X1_listResults_sX1_loads : Cond.selects RX1 yX1_loads yX1_loads ∈ wsX1_listResults := by decide +kernel
set_option maxRecDepth 20000 in
theorem mm_X1_listResults_sX5_addA : Cond.selects RX5 yX5_addA yX5_addA ∈ wsX1_listResults := by decide +kernel
set_option maxRecDepth 20000 in
theorem mm_X1_listResults_sX5_addB : Cond.selects RX5 yX5_addB yX5_addB ∈ wsX1_listResults := by decide +kernel
set_option maxRecDepth 20000 in
theorem mm_X1_listResults_sX5_addX : Cond.selects RX5 yX5_addX yX5_addX ∈ wsX1_listResults := by decide +kernel
set_option maxHeartbeats 4000000 in
set_option maxRecDepth 100000 in
theorem w_X1_listResults {p : Program} {l : Launch} {e : Env} {s : State} {m : MethodId} {below : List Frame} {meth : Method} {c : Code} {args : Array Value} (dC : Nat → ClassId) (dI : Nat → Nat → Nat) (cI cJ : ClassId) (hI hR r1 hN : Nat) (iop : Int32) (ii : Int32) (ij : Int32) (ik : Int32) (ic : Int32) (ip : Int32) (iu : Int32) (rS : Int32) (rr : Nat → Int32) {w0 : va_W} (C0 : Cx p s m meth c cX1_listResults 1 none wsX1_listResults RX1 args) (hK : va_K (dC, dI) vwCl [(cI, .int), (cJ, .long)] s) (hZ : Zs false (va_A w0 s.heap.size) s s.heap) (hn : LOk rS rr) (hi : R8 ii) {V : Int32 × (Nat → Int32)} (hV : (F_X1_listResults iop ii iu rS rr ) = V) (ls : Array Slot) (hl : lv_has ls 1 [(0, .ref hI)]) {H : Heap} {locs : List Loc} (hP : va_P (dC, dI) vwCl [(hI, .inr (1, [.int iop, .int ii, .int ij, .int ik, .int ic, .int ip, .int iu, .ref hN, .ref hR])), (hR, .inr (3, [.ref r1, .int rS])), (r1, .inl (cI, 3, .inl rr))] H) (hD : va_D (va_A w0 s.heap.size) [(hI, .inr (1, [.int iop, .int ii, .int ij, .int ik, .int ic, .int ip, .int iu, .ref hN, .ref hR])), (hR, .inr (3, [.ref r1, .int rS])), (r1, .inl (cI, 3, .inl rr))]) (hS : va_S (va_A w0 s.heap.size) s.heap H locs) : W p l e rm_X1_listResults s m args below meth c H locs 0 0 (MQ below (QV (dC, dI) [(cI, .int), (cJ, .long)] w0 [(hI, .inr (1, [.int iop, .int ii, .int ij, .int ik, .int ic, .int ip, .int iu, .ref hN, .ref hR])), (hR, .inr (3, [.ref r1, .int V.1])), (r1, .inl (cI, 3, .inl V.2))] s.heap.size) args s 0 0 (va_A w0 s.heap.size)) (F0 m 0 ls []) := by
  obtain ⟨hx, hb, hr, hlk, hml, hown, hts⟩ := id C0
  have hA : ∀ q : Nat, s.heap.size ≤ q → va_A w0 s.heap.size q := fun q h => Or.inr h
  refine lv_aload_n hx hb dX1_listResults_0 rfl (lv_at hl 0 rfl) ?_
  refine va_get (D := (dC, dI)) (ci := 1) (v := .int iu) (C := RX1) (T := TX1) (N := 9) hx hb hts mi_X1_listResults_X1 hown hK hP 0 rfl rfl 6 (by decide) (hts (.fieldLink RX1 45 "ScoreboardCore$Instruction" "unit" "I") mm_X1_listResults_f45) (fun _ h9 => h9) rfl dX1_listResults_1 ?_
  refine lv_iconst (v := (-1 : Int32)) hx hb dX1_listResults_4 (by decide) ?_
  refine lv_icmp_ne (x := iu) (y := (-1 : Int32)) (tgt := 9) hx hb dX1_listResults_5 (by decide) (fun c1 => ?_) (fun c1 => ?_)
  · refine lv_aload_n hx hb dX1_listResults_9 rfl (lv_at hl 0 rfl) ?_
    refine va_get (D := (dC, dI)) (ci := 1) (v := .int iop) (C := RX1) (T := TX1) (N := 9) hx hb hts mi_X1_listResults_X1 hown hK hP 0 rfl rfl 0 (by decide) (hts (.fieldLink RX1 25 "ScoreboardCore$Instruction" "op" "I") mm_X1_listResults_f25) (fun _ h9 => h9) rfl dX1_listResults_10 ?_
    refine lv_iconst (v := (3 : Int32)) hx hb dX1_listResults_13 (by decide) ?_
    refine lv_ishr hx hb dX1_listResults_14 ?_
    by_cases c2 : (iop >>> ((3 : Int32) &&& 31)) = (5 : Int32)
    · refine lv_lookup (off := 25) (tgt := 40) hx hb dX1_listResults_15 (by decide) (by rw [c2]; first | done | rfl) (by decide) ?_
      refine lv_aload_n hx hb dX1_listResults_40 rfl (lv_at hl 0 rfl) ?_
      refine va_get (D := (dC, dI)) (ci := 1) (v := .ref hR) (C := RX1) (T := TX1) (N := 9) hx hb hts mi_X1_listResults_X1 hown hK hP 0 rfl rfl 8 (by decide) (hts (.fieldLink RX1 18 "ScoreboardCore$Instruction" "results" "LScoreboardCore$RegisterList;") mm_X1_listResults_f18) (fun _ h9 => h9) rfl dX1_listResults_41 ?_
      refine lv_aload_n hx hb dX1_listResults_44 rfl (lv_at hl 0 rfl) ?_
      refine va_get (D := (dC, dI)) (ci := 1) (v := .int ii) (C := RX1) (T := TX1) (N := 9) hx hb hts mi_X1_listResults_X1 hown hK hP 0 rfl rfl 1 (by decide) (hts (.fieldLink RX1 28 "ScoreboardCore$Instruction" "i" "I") mm_X1_listResults_f28) (fun _ h9 => h9) rfl dX1_listResults_45 ?_
      refine wrVv (As := [.int ii]) (rest := []) (bytes := cX5_addA) (maxL := 2) (rty := none) (n := 1) (ci := 3) C0 (c_X5_addA l dC dI cI cJ hR r1 ii rS rr (by first | exact hn' | exact hn | exact hn'.addX hi | exact hn'.addX hj | exact hn'.addX hk | exact hn'.addA hi | exact hn'.addA hj | exact hn'.addB hi | exact hn'.addB hj | exact hn'.addB hk | exact hn.addX hi | exact hn.addX hj | exact hn.addX hk | exact hn.addA hi | exact hn.addA hj | exact hn.addB hi | exact hn.addB hj | exact hn.addB hk)) ⟨rfl, rfl, rfl, by decide +kernel, by decide, by decide⟩ ggX1_listResults_X5_addA mm_X1_listResults_iX5 mm_X1_listResults_l84 mm_X1_listResults_nX5_addA mm_X1_listResults_sX5_addA rfl rfl hP hD hK hS hA (Zs.no _ _ _) [1, 2] [0] [0, 1, 2] [(hI, .inr (1, [.int iop, .int ii, .int ij, .int ik, .int ic, .int ip, .int iu, .ref hN, .ref hR]))] [(hI, .inr (1, [.int iop, .int ii, .int ij, .int ik, .int ic, .int ip, .int iu, .ref hN, .ref hR])), (hR, .inr (3, [.ref r1, .int ((F_X5_addA ii rS rr).1)])), (r1, .inl (cI, 3, .inl ((F_X5_addA ii rS rr).2)))] rfl (by decide) (hP.sub (ws' := [(hR, .inr (3, [.ref r1, .int rS])), (r1, .inl (cI, 3, .inl rr))]) [1, 2] rfl) rfl (by decide) (by decide) (by decide) rfl hl.1 rfl rfl (Nat.le_of_ble_eq_true rfl) dX1_listResults_48 ⟨Nat.zero_le _, Nat.zero_le _⟩ (fun H locs hP hD hS => ?_)
      refine lv_aload_n hx hb dX1_listResults_51 rfl (lv_at hl 0 rfl) ?_
      refine roVi (As := []) (rest := []) (bytes := cX1_loads) (maxL := 1) (rty := (some .boolean)) (n := 0) (ci := 1) C0 (c_X1_loads l dC dI cI cJ hI hN hR iop ii ij ik ic ip iu) ⟨rfl, rfl, rfl, by decide +kernel, by decide, by decide⟩ ggX1_listResults_X1_loads mm_X1_listResults_iX1 mm_X1_listResults_l90 mm_X1_listResults_nX1_loads mm_X1_listResults_sX1_loads rfl rfl (hP.sub (ws' := [(hI, .inr (1, [.int iop, .int ii, .int ij, .int ik, .int ic, .int ip, .int iu, .ref hN, .ref hR]))]) [0] rfl) hK hl.1 rfl rfl (Nat.le_of_ble_eq_true rfl) dX1_listResults_52 ⟨Nat.zero_le _, Nat.zero_le _⟩ ?_
      refine lv_if_eq (x := (F_X1_loads iop ii)) (tgt := 97) hx hb dX1_listResults_55 (by decide) (fun c3 => ?_) (fun c3 => ?_)
      · have e9 : (F_X1_listResults iop ii iu rS rr ) = (((F_X5_addA ii rS rr).1), ((F_X5_addA ii rS rr).2)) := by rw [F_X1_listResults, if_neg c1, if_pos c2, if_pos c3]
        rw [e9] at hV
        subst hV
        exact wrRetV C0 hK hP hD hS dX1_listResults_97
      · refine lv_aload_n hx hb dX1_listResults_58 rfl (lv_at hl 0 rfl) ?_
        refine va_get (D := (dC, dI)) (ci := 1) (v := .ref hR) (C := RX1) (T := TX1) (N := 9) hx hb hts mi_X1_listResults_X1 hown hK hP 0 rfl rfl 8 (by decide) (hts (.fieldLink RX1 18 "ScoreboardCore$Instruction" "results" "LScoreboardCore$RegisterList;") mm_X1_listResults_f18) (fun _ h9 => h9) rfl dX1_listResults_59 ?_
        refine lv_aload_n hx hb dX1_listResults_62 rfl (lv_at hl 0 rfl) ?_
        refine va_get (D := (dC, dI)) (ci := 1) (v := .int ii) (C := RX1) (T := TX1) (N := 9) hx hb hts mi_X1_listResults_X1 hown hK hP 0 rfl rfl 1 (by decide) (hts (.fieldLink RX1 28 "ScoreboardCore$Instruction" "i" "I") mm_X1_listResults_f28) (fun _ h9 => h9) rfl dX1_listResults_63 ?_
        refine wrVv (As := [.int ii]) (rest := []) (bytes := cX5_addX) (maxL := 2) (rty := none) (n := 1) (ci := 3) C0 (c_X5_addX l dC dI cI cJ hR r1 ii ((F_X5_addA ii rS rr).1) ((F_X5_addA ii rS rr).2) (by first | exact hn' | exact hn | exact hn'.addX hi | exact hn'.addX hj | exact hn'.addX hk | exact hn'.addA hi | exact hn'.addA hj | exact hn'.addB hi | exact hn'.addB hj | exact hn'.addB hk | exact hn.addX hi | exact hn.addX hj | exact hn.addX hk | exact hn.addA hi | exact hn.addA hj | exact hn.addB hi | exact hn.addB hj | exact hn.addB hk)) ⟨rfl, rfl, rfl, by decide +kernel, by decide, by decide⟩ ggX1_listResults_X5_addX mm_X1_listResults_iX5 mm_X1_listResults_l71 mm_X1_listResults_nX5_addX mm_X1_listResults_sX5_addX rfl rfl hP hD hK hS hA (Zs.no _ _ _) [1, 2] [0] [0, 1, 2] [(hI, .inr (1, [.int iop, .int ii, .int ij, .int ik, .int ic, .int ip, .int iu, .ref hN, .ref hR]))] [(hI, .inr (1, [.int iop, .int ii, .int ij, .int ik, .int ic, .int ip, .int iu, .ref hN, .ref hR])), (hR, .inr (3, [.ref r1, .int ((F_X5_addX ii ((F_X5_addA ii rS rr).1) ((F_X5_addA ii rS rr).2)).1)])), (r1, .inl (cI, 3, .inl ((F_X5_addX ii ((F_X5_addA ii rS rr).1) ((F_X5_addA ii rS rr).2)).2)))] rfl (by decide) (hP.sub (ws' := [(hR, .inr (3, [.ref r1, .int ((F_X5_addA ii rS rr).1)])), (r1, .inl (cI, 3, .inl ((F_X5_addA ii rS rr).2)))]) [1, 2] rfl) rfl (by decide) (by decide) (by decide) rfl hl.1 rfl rfl (Nat.le_of_ble_eq_true rfl) dX1_listResults_66 ⟨Nat.zero_le _, Nat.zero_le _⟩ (fun H locs hP hD hS => ?_)
        refine lv_goto (tgt := 97) hx hb dX1_listResults_69 (by decide) ?_
        have e9 : (F_X1_listResults iop ii iu rS rr ) = (((F_X5_addX ii ((F_X5_addA ii rS rr).1) ((F_X5_addA ii rS rr).2)).1), ((F_X5_addX ii ((F_X5_addA ii rS rr).1) ((F_X5_addA ii rS rr).2)).2)) := by rw [F_X1_listResults, if_neg c1, if_pos c2, if_neg c3]
        rw [e9] at hV
        subst hV
        exact wrRetV C0 hK hP hD hS dX1_listResults_97
    by_cases c4 : (iop >>> ((3 : Int32) &&& 31)) = (6 : Int32)
    · refine lv_lookup (off := 57) (tgt := 72) hx hb dX1_listResults_15 (by decide) (by rw [c4]; first | done | rfl) (by decide) ?_
      refine lv_aload_n hx hb dX1_listResults_72 rfl (lv_at hl 0 rfl) ?_
      refine va_get (D := (dC, dI)) (ci := 1) (v := .ref hR) (C := RX1) (T := TX1) (N := 9) hx hb hts mi_X1_listResults_X1 hown hK hP 0 rfl rfl 8 (by decide) (hts (.fieldLink RX1 18 "ScoreboardCore$Instruction" "results" "LScoreboardCore$RegisterList;") mm_X1_listResults_f18) (fun _ h9 => h9) rfl dX1_listResults_73 ?_
      refine lv_aload_n hx hb dX1_listResults_76 rfl (lv_at hl 0 rfl) ?_
      refine va_get (D := (dC, dI)) (ci := 1) (v := .int ii) (C := RX1) (T := TX1) (N := 9) hx hb hts mi_X1_listResults_X1 hown hK hP 0 rfl rfl 1 (by decide) (hts (.fieldLink RX1 28 "ScoreboardCore$Instruction" "i" "I") mm_X1_listResults_f28) (fun _ h9 => h9) rfl dX1_listResults_77 ?_
      refine wrVv (As := [.int ii]) (rest := []) (bytes := cX5_addB) (maxL := 2) (rty := none) (n := 1) (ci := 3) C0 (c_X5_addB l dC dI cI cJ hR r1 ii rS rr (by first | exact hn' | exact hn | exact hn'.addX hi | exact hn'.addX hj | exact hn'.addX hk | exact hn'.addA hi | exact hn'.addA hj | exact hn'.addB hi | exact hn'.addB hj | exact hn'.addB hk | exact hn.addX hi | exact hn.addX hj | exact hn.addX hk | exact hn.addA hi | exact hn.addA hj | exact hn.addB hi | exact hn.addB hj | exact hn.addB hk)) ⟨rfl, rfl, rfl, by decide +kernel, by decide, by decide⟩ ggX1_listResults_X5_addB mm_X1_listResults_iX5 mm_X1_listResults_l81 mm_X1_listResults_nX5_addB mm_X1_listResults_sX5_addB rfl rfl hP hD hK hS hA (Zs.no _ _ _) [1, 2] [0] [0, 1, 2] [(hI, .inr (1, [.int iop, .int ii, .int ij, .int ik, .int ic, .int ip, .int iu, .ref hN, .ref hR]))] [(hI, .inr (1, [.int iop, .int ii, .int ij, .int ik, .int ic, .int ip, .int iu, .ref hN, .ref hR])), (hR, .inr (3, [.ref r1, .int ((F_X5_addB ii rS rr).1)])), (r1, .inl (cI, 3, .inl ((F_X5_addB ii rS rr).2)))] rfl (by decide) (hP.sub (ws' := [(hR, .inr (3, [.ref r1, .int rS])), (r1, .inl (cI, 3, .inl rr))]) [1, 2] rfl) rfl (by decide) (by decide) (by decide) rfl hl.1 rfl rfl (Nat.le_of_ble_eq_true rfl) dX1_listResults_80 ⟨Nat.zero_le _, Nat.zero_le _⟩ (fun H locs hP hD hS => ?_)
      refine lv_goto (tgt := 97) hx hb dX1_listResults_83 (by decide) ?_
      have e9 : (F_X1_listResults iop ii iu rS rr ) = (((F_X5_addB ii rS rr).1), ((F_X5_addB ii rS rr).2)) := by rw [F_X1_listResults, if_neg c1, if_neg c2, if_pos c4]
      rw [e9] at hV
      subst hV
      exact wrRetV C0 hK hP hD hS dX1_listResults_97
    refine lv_lookup (off := 71) (tgt := 86) hx hb dX1_listResults_15 (by decide) (by show Op.lookupswitch.offset [(5, 25), (6, 57)] _ _ = _; rw [lv_osw c2 (by decide), lv_osw c4 (by decide)]; first | done | rfl) (by decide) ?_
    refine lv_aload_n hx hb dX1_listResults_86 rfl (lv_at hl 0 rfl) ?_
    refine va_get (D := (dC, dI)) (ci := 1) (v := .ref hR) (C := RX1) (T := TX1) (N := 9) hx hb hts mi_X1_listResults_X1 hown hK hP 0 rfl rfl 8 (by decide) (hts (.fieldLink RX1 18 "ScoreboardCore$Instruction" "results" "LScoreboardCore$RegisterList;") mm_X1_listResults_f18) (fun _ h9 => h9) rfl dX1_listResults_87 ?_
    refine lv_aload_n hx hb dX1_listResults_90 rfl (lv_at hl 0 rfl) ?_
    refine va_get (D := (dC, dI)) (ci := 1) (v := .int ii) (C := RX1) (T := TX1) (N := 9) hx hb hts mi_X1_listResults_X1 hown hK hP 0 rfl rfl 1 (by decide) (hts (.fieldLink RX1 28 "ScoreboardCore$Instruction" "i" "I") mm_X1_listResults_f28) (fun _ h9 => h9) rfl dX1_listResults_91 ?_
    refine wrVv (As := [.int ii]) (rest := []) (bytes := cX5_addX) (maxL := 2) (rty := none) (n := 1) (ci := 3) C0 (c_X5_addX l dC dI cI cJ hR r1 ii rS rr (by first | exact hn' | exact hn | exact hn'.addX hi | exact hn'.addX hj | exact hn'.addX hk | exact hn'.addA hi | exact hn'.addA hj | exact hn'.addB hi | exact hn'.addB hj | exact hn'.addB hk | exact hn.addX hi | exact hn.addX hj | exact hn.addX hk | exact hn.addA hi | exact hn.addA hj | exact hn.addB hi | exact hn.addB hj | exact hn.addB hk)) ⟨rfl, rfl, rfl, by decide +kernel, by decide, by decide⟩ ggX1_listResults_X5_addX mm_X1_listResults_iX5 mm_X1_listResults_l71 mm_X1_listResults_nX5_addX mm_X1_listResults_sX5_addX rfl rfl hP hD hK hS hA (Zs.no _ _ _) [1, 2] [0] [0, 1, 2] [(hI, .inr (1, [.int iop, .int ii, .int ij, .int ik, .int ic, .int ip, .int iu, .ref hN, .ref hR]))] [(hI, .inr (1, [.int iop, .int ii, .int ij, .int ik, .int ic, .int ip, .int iu, .ref hN, .ref hR])), (hR, .inr (3, [.ref r1, .int ((F_X5_addX ii rS rr).1)])), (r1, .inl (cI, 3, .inl ((F_X5_addX ii rS rr).2)))] rfl (by decide) (hP.sub (ws' := [(hR, .inr (3, [.ref r1, .int rS])), (r1, .inl (cI, 3, .inl rr))]) [1, 2] rfl) rfl (by decide) (by decide) (by decide) rfl hl.1 rfl rfl (Nat.le_of_ble_eq_true rfl) dX1_listResults_94 ⟨Nat.zero_le _, Nat.zero_le _⟩ (fun H locs hP hD hS => ?_)
    have e9 : (F_X1_listResults iop ii iu rS rr ) = (((F_X5_addX ii rS rr).1), ((F_X5_addX ii rS rr).2)) := by rw [F_X1_listResults, if_neg c1, if_neg c2, if_neg c4]
    rw [e9] at hV
    subst hV
    exact wrRetV C0 hK hP hD hS dX1_listResults_97
  · have e9 : (F_X1_listResults iop ii iu rS rr ) = (rS, rr) := by rw [F_X1_listResults, if_pos c1]
    rw [e9] at hV
    subst hV
    exact wrRetV C0 hK hP hD hS dX1_listResults_8
theorem c_X1_listResults (l : Launch) (dC : Nat → ClassId) (dI : Nat → Nat → Nat) (cI cJ : ClassId) (hI hR r1 hN : Nat) (iop : Int32) (ii : Int32) (ij : Int32) (ik : Int32) (ic : Int32) (ip : Int32) (iu : Int32) (rS : Int32) (rr : Nat → Int32) (hn : LOk rS rr) (hi : R8 ii) : WrV false l yX1_listResults wsX1_listResults rm_X1_listResults (dC, dI) [(cI, .int), (cJ, .long)] [(hI, .inr (1, [.int iop, .int ii, .int ij, .int ik, .int ic, .int ip, .int iu, .ref hN, .ref hR])), (hR, .inr (3, [.ref r1, .int rS])), (r1, .inl (cI, 3, .inl rr))] [(hI, .inr (1, [.int iop, .int ii, .int ij, .int ik, .int ic, .int ip, .int iu, .ref hN, .ref hR])), (hR, .inr (3, [.ref r1, .int ((F_X1_listResults iop ii iu rS rr ).1)])), (r1, .inl (cI, 3, .inl ((F_X1_listResults iop ii iu rS rr ).2)))] [.ref hI] := by
  refine WrV.mk (cc := cX1_listResults) (nL := 1) (ret := none) [(0, .ref hI)] (by decide) rfl (Nat.le_of_ble_eq_true rfl) rfl ?_
  intro p e s m below meth c C0 hP hK hD hS hZ ls hl
  exact w_X1_listResults dC dI cI cJ hI hR r1 hN iop ii ij ik ic ip iu rS rr C0 hK hZ hn hi rfl ls hl hP hD hS
