-- X7_reachMemory
def F_X7_reachMemory (ad : Int32) (iop : Int32) (ii : Int32) (gv : Nat → Int64) (mw : Nat → Int64) : (Nat → Int64) × (Nat → Int64) :=
  (if (F_X1_loads iop ii) = 0 then (if (F_X1_stores iop ii) = 0 then (gv, mw) else (gv, (F_X3_store ad (F_X6_x (F_X1_i ii) gv) mw))) else ((F_X6_set (F_X1_i ii) (F_X3_load ad mw) gv), mw))
abbrev rm_X7_reachMemory : Room := { frames := 2, cells := 0, slots := 0, locals := 43 }
set_option maxRecDepth 20000 in
theorem mm_X7_reachMemory_iX1 : Cond.initialized RX1 ∈ wsX7_reachMemory := by decide +kernel
set_option maxRecDepth 20000 in
theorem mm_X7_reachMemory_iX3 : Cond.initialized RX3 ∈ wsX7_reachMemory := by decide +kernel
set_option maxRecDepth 20000 in
theorem mm_X7_reachMemory_iX6 : Cond.initialized RX6 ∈ wsX7_reachMemory := by decide +kernel
set_option maxRecDepth 20000 in
theorem mm_X7_reachMemory_l108 : Cond.methodLink RX7 108 yX1_loads ∈ wsX7_reachMemory := by decide +kernel
set_option maxRecDepth 20000 in
theorem mm_X7_reachMemory_l112 : Cond.methodLink RX7 112 yX3_load ∈ wsX7_reachMemory := by decide +kernel
set_option maxRecDepth 20000 in
theorem mm_X7_reachMemory_l117 : Cond.methodLink RX7 117 yX1_stores ∈ wsX7_reachMemory := by decide +kernel
set_option maxRecDepth 20000 in
theorem mm_X7_reachMemory_l120 : Cond.methodLink RX7 120 yX3_store ∈ wsX7_reachMemory := by decide +kernel
set_option maxRecDepth 20000 in
theorem mm_X7_reachMemory_l15 : Cond.methodLink RX7 15 yX1_i ∈ wsX7_reachMemory := by decide +kernel
set_option maxRecDepth 20000 in
theorem mm_X7_reachMemory_l24 : Cond.methodLink RX7 24 yX6_x ∈ wsX7_reachMemory := by decide +kernel
set_option maxRecDepth 20000 in
theorem mm_X7_reachMemory_l39 : Cond.methodLink RX7 39 yX6_set ∈ wsX7_reachMemory := by decide +kernel
set_option maxRecDepth 20000 in
theorem mm_X7_reachMemory_nX1_i : Cond.instanceMethod yX1_i ∈ wsX7_reachMemory := by decide +kernel
set_option maxRecDepth 20000 in
theorem mm_X7_reachMemory_nX1_loads : Cond.instanceMethod yX1_loads ∈ wsX7_reachMemory := by decide +kernel
set_option maxRecDepth 20000 in
theorem mm_X7_reachMemory_nX1_stores : Cond.instanceMethod yX1_stores ∈ wsX7_reachMemory := by decide +kernel
set_option maxRecDepth 20000 in
theorem mm_X7_reachMemory_nX3_load : Cond.instanceMethod yX3_load ∈ wsX7_reachMemory := by decide +kernel
set_option maxRecDepth 20000 in
theorem mm_X7_reachMemory_nX3_store : Cond.instanceMethod yX3_store ∈ wsX7_reachMemory := by decide +kernel
set_option maxRecDepth 20000 in
theorem mm_X7_reachMemory_nX6_set : Cond.instanceMethod yX6_set ∈ wsX7_reachMemory := by decide +kernel
set_option maxRecDepth 20000 in
theorem mm_X7_reachMemory_nX6_x : Cond.instanceMethod yX6_x ∈ wsX7_reachMemory := by decide +kernel
set_option maxRecDepth 20000 in
theorem mm_X7_reachMemory_sX1_i : Cond.selects RX1 yX1_i yX1_i ∈ wsX7_reachMemory := by decide +kernel
set_option maxRecDepth 20000 in
theorem mm_X7_reachMemory_sX1_loads : Cond.selects RX1 yX1_loads yX1_loads ∈ wsX7_reachMemory := by decide +kernel
set_option maxRecDepth 20000 in
theorem mm_X7_reachMemory_sX1_stores : Cond.selects RX1 yX1_stores yX1_stores ∈ wsX7_reachMemory := by decide +kernel
set_option maxRecDepth 20000 in
theorem mm_X7_reachMemory_sX3_load : Cond.selects RX3 yX3_load yX3_load ∈ wsX7_reachMemory := by decide +kernel
set_option maxRecDepth 20000 in
theorem mm_X7_reachMemory_sX3_store : Cond.selects RX3 yX3_store yX3_store ∈ wsX7_reachMemory := by decide +kernel
set_option maxRecDepth 20000 in
theorem mm_X7_reachMemory_sX6_set : Cond.selects RX6 yX6_set yX6_set ∈ wsX7_reachMemory := by decide +kernel
set_option maxRecDepth 20000 in
theorem mm_X7_reachMemory_sX6_x : Cond.selects RX6 yX6_x yX6_x ∈ wsX7_reachMemory := by decide +kernel
set_option maxHeartbeats 4000000 in
set_option maxRecDepth 100000 in
theorem w_X7_reachMemory {p : Program} {l : Launch} {e : Env} {s : State} {m : MethodId} {below : List Frame} {meth : Method} {c : Code} {args : Array Value} (dC : Nat → ClassId) (dI : Nat → Nat → Nat) (cI cJ : ClassId) (hI hG g1 hM m1 hN hR m2 : Nat) (ad : Int32) (iop : Int32) (ii : Int32) (ij : Int32) (ik : Int32) (ic : Int32) (ip : Int32) (iu : Int32) (gv : Nat → Int64) (mw : Nat → Int64) {w0 : va_W} (C0 : Cx p s m meth c cX7_reachMemory 4 none wsX7_reachMemory RX7 args) (hK : va_K (dC, dI) vwCl [(cI, .int), (cJ, .long)] s) (hZ : Zs false (va_A w0 s.heap.size) s s.heap) (hi : R8 ii) (hj : R8 ij) (hk : R8 ik) {V : (Nat → Int64) × (Nat → Int64)} (hV : (F_X7_reachMemory ad iop ii gv mw ) = V) (ls : Array Slot) (hl : lv_has ls 4 [(0, .ref hI), (1, .int ad), (2, .ref hG), (3, .ref hM)]) {H : Heap} {locs : List Loc} (hP : va_P (dC, dI) vwCl [(hI, .inr (1, [.int iop, .int ii, .int ij, .int ik, .int ic, .int ip, .int iu, .ref hN, .ref hR])), (hG, .inr (4, [.ref g1])), (g1, .inl (cJ, 24, .inr (.inl gv))), (hM, .inr (2, [.ref m1, .ref m2])), (m1, .inl (cJ, 512, .inr (.inl mw)))] H) (hD : va_D (va_A w0 s.heap.size) [(hI, .inr (1, [.int iop, .int ii, .int ij, .int ik, .int ic, .int ip, .int iu, .ref hN, .ref hR])), (hG, .inr (4, [.ref g1])), (g1, .inl (cJ, 24, .inr (.inl gv))), (hM, .inr (2, [.ref m1, .ref m2])), (m1, .inl (cJ, 512, .inr (.inl mw)))]) (hS : va_S (va_A w0 s.heap.size) s.heap H locs) : W p l e rm_X7_reachMemory s m args below meth c H locs 0 0 (MQ below (QV (dC, dI) [(cI, .int), (cJ, .long)] w0 [(hI, .inr (1, [.int iop, .int ii, .int ij, .int ik, .int ic, .int ip, .int iu, .ref hN, .ref hR])), (hG, .inr (4, [.ref g1])), (g1, .inl (cJ, 24, .inr (.inl V.1))), (hM, .inr (2, [.ref m1, .ref m2])), (m1, .inl (cJ, 512, .inr (.inl V.2)))] s.heap.size) args s 0 0 (va_A w0 s.heap.size)) (F0 m 0 ls []) := by
  obtain ⟨hx, hb, hr, hlk, hml, hown, hts⟩ := id C0
  have hA : ∀ q : Nat, s.heap.size ≤ q → va_A w0 s.heap.size q := fun q h => Or.inr h
  refine lv_aload_n hx hb dX7_reachMemory_0 rfl (lv_at hl 0 rfl) ?_
  refine roVi (As := []) (rest := []) (bytes := cX1_loads) (maxL := 1) (rty := (some .boolean)) (n := 0) (ci := 1) C0 (c_X1_loads l dC dI cI cJ hI hN hR iop ii ij ik ic ip iu) ⟨rfl, rfl, rfl, by decide +kernel, by decide, by decide⟩ ggX7_reachMemory_X1_loads mm_X7_reachMemory_iX1 mm_X7_reachMemory_l108 mm_X7_reachMemory_nX1_loads mm_X7_reachMemory_sX1_loads rfl rfl (hP.sub (ws' := [(hI, .inr (1, [.int iop, .int ii, .int ij, .int ik, .int ic, .int ip, .int iu, .ref hN, .ref hR]))]) [0] rfl) hK hl.1 rfl rfl (Nat.le_of_ble_eq_true rfl) dX7_reachMemory_1 ⟨Nat.zero_le _, Nat.zero_le _⟩ ?_
  refine lv_if_eq (x := (F_X1_loads iop ii)) (tgt := 23) hx hb dX7_reachMemory_4 (by decide) (fun c1 => ?_) (fun c1 => ?_)
  · refine lv_aload_n hx hb dX7_reachMemory_23 rfl (lv_at hl 0 rfl) ?_
    refine roVi (As := []) (rest := []) (bytes := cX1_stores) (maxL := 1) (rty := (some .boolean)) (n := 0) (ci := 1) C0 (c_X1_stores l dC dI cI cJ hI hN hR iop ii ij ik ic ip iu) ⟨rfl, rfl, rfl, by decide +kernel, by decide, by decide⟩ ggX7_reachMemory_X1_stores mm_X7_reachMemory_iX1 mm_X7_reachMemory_l117 mm_X7_reachMemory_nX1_stores mm_X7_reachMemory_sX1_stores rfl rfl (hP.sub (ws' := [(hI, .inr (1, [.int iop, .int ii, .int ij, .int ik, .int ic, .int ip, .int iu, .ref hN, .ref hR]))]) [0] rfl) hK hl.1 rfl rfl (Nat.le_of_ble_eq_true rfl) dX7_reachMemory_24 ⟨Nat.zero_le _, Nat.zero_le _⟩ ?_
    refine lv_if_eq (x := (F_X1_stores iop ii)) (tgt := 43) hx hb dX7_reachMemory_27 (by decide) (fun c2 => ?_) (fun c2 => ?_)
    · have e9 : (F_X7_reachMemory ad iop ii gv mw ) = (gv, mw) := by rw [F_X7_reachMemory, if_pos c1, if_pos c2]
      rw [e9] at hV
      subst hV
      exact wrRetV C0 hK hP hD hS dX7_reachMemory_43
    · refine lv_aload_n hx hb dX7_reachMemory_30 rfl (lv_at hl 3 rfl) ?_
      refine lv_iload_n hx hb dX7_reachMemory_31 rfl (lv_at hl 1 rfl) ?_
      refine lv_aload_n hx hb dX7_reachMemory_32 rfl (lv_at hl 2 rfl) ?_
      refine lv_aload_n hx hb dX7_reachMemory_33 rfl (lv_at hl 0 rfl) ?_
      refine roVi (As := []) (rest := [.ref hG, .int ad, .ref hM]) (bytes := cX1_i) (maxL := 1) (rty := (some .int)) (n := 0) (ci := 1) C0 (c_X1_i l dC dI cI cJ hI hN hR iop ii ij ik ic ip iu) ⟨rfl, rfl, rfl, by decide +kernel, by decide, by decide⟩ ggX7_reachMemory_X1_i mm_X7_reachMemory_iX1 mm_X7_reachMemory_l15 mm_X7_reachMemory_nX1_i mm_X7_reachMemory_sX1_i rfl rfl (hP.sub (ws' := [(hI, .inr (1, [.int iop, .int ii, .int ij, .int ik, .int ic, .int ip, .int iu, .ref hN, .ref hR]))]) [0] rfl) hK hl.1 rfl rfl (Nat.le_of_ble_eq_true rfl) dX7_reachMemory_34 ⟨Nat.zero_le _, Nat.zero_le _⟩ ?_
      refine roVl (As := [.int (F_X1_i ii)]) (rest := [.int ad, .ref hM]) (bytes := cX6_x) (maxL := 2) (rty := (some .long)) (n := 1) (ci := 4) C0 (c_X6_x l dC dI cI cJ hG g1 (F_X1_i ii) gv (R8.x hi)) ⟨rfl, rfl, rfl, by decide +kernel, by decide, by decide⟩ ggX7_reachMemory_X6_x mm_X7_reachMemory_iX6 mm_X7_reachMemory_l24 mm_X7_reachMemory_nX6_x mm_X7_reachMemory_sX6_x rfl rfl (hP.sub (ws' := [(hG, .inr (4, [.ref g1])), (g1, .inl (cJ, 24, .inr (.inl gv)))]) [1, 2] rfl) hK hl.1 rfl rfl (Nat.le_of_ble_eq_true rfl) dX7_reachMemory_37 ⟨Nat.zero_le _, Nat.zero_le _⟩ ?_
      refine wrVv (As := [.int ad, .long (F_X6_x (F_X1_i ii) gv)]) (rest := []) (bytes := cX3_store) (maxL := 4) (rty := none) (n := 2) (ci := 2) C0 (c_X3_store l dC dI cI cJ hM m1 m2 ad (F_X6_x (F_X1_i ii) gv) mw) ⟨rfl, rfl, rfl, by decide +kernel, by decide, by decide⟩ ggX7_reachMemory_X3_store mm_X7_reachMemory_iX3 mm_X7_reachMemory_l120 mm_X7_reachMemory_nX3_store mm_X7_reachMemory_sX3_store rfl rfl hP hD hK hS hA (Zs.no _ _ _) [3, 4] [0, 1, 2] [0, 1, 2, 3, 4] [(hI, .inr (1, [.int iop, .int ii, .int ij, .int ik, .int ic, .int ip, .int iu, .ref hN, .ref hR])), (hG, .inr (4, [.ref g1])), (g1, .inl (cJ, 24, .inr (.inl gv)))] [(hI, .inr (1, [.int iop, .int ii, .int ij, .int ik, .int ic, .int ip, .int iu, .ref hN, .ref hR])), (hG, .inr (4, [.ref g1])), (g1, .inl (cJ, 24, .inr (.inl gv))), (hM, .inr (2, [.ref m1, .ref m2])), (m1, .inl (cJ, 512, .inr (.inl (F_X3_store ad (F_X6_x (F_X1_i ii) gv) mw))))] rfl (by decide) (hP.sub (ws' := [(hM, .inr (2, [.ref m1, .ref m2])), (m1, .inl (cJ, 512, .inr (.inl mw)))]) [3, 4] rfl) rfl (by decide) (by decide) (by decide) rfl hl.1 rfl rfl (Nat.le_of_ble_eq_true rfl) dX7_reachMemory_40 ⟨Nat.zero_le _, Nat.zero_le _⟩ (fun H locs hP hD hS => ?_)
      have e9 : (F_X7_reachMemory ad iop ii gv mw ) = (gv, (F_X3_store ad (F_X6_x (F_X1_i ii) gv) mw)) := by rw [F_X7_reachMemory, if_pos c1, if_neg c2]
      rw [e9] at hV
      subst hV
      exact wrRetV C0 hK hP hD hS dX7_reachMemory_43
  · refine lv_aload_n hx hb dX7_reachMemory_7 rfl (lv_at hl 2 rfl) ?_
    refine lv_aload_n hx hb dX7_reachMemory_8 rfl (lv_at hl 0 rfl) ?_
    refine roVi (As := []) (rest := [.ref hG]) (bytes := cX1_i) (maxL := 1) (rty := (some .int)) (n := 0) (ci := 1) C0 (c_X1_i l dC dI cI cJ hI hN hR iop ii ij ik ic ip iu) ⟨rfl, rfl, rfl, by decide +kernel, by decide, by decide⟩ ggX7_reachMemory_X1_i mm_X7_reachMemory_iX1 mm_X7_reachMemory_l15 mm_X7_reachMemory_nX1_i mm_X7_reachMemory_sX1_i rfl rfl (hP.sub (ws' := [(hI, .inr (1, [.int iop, .int ii, .int ij, .int ik, .int ic, .int ip, .int iu, .ref hN, .ref hR]))]) [0] rfl) hK hl.1 rfl rfl (Nat.le_of_ble_eq_true rfl) dX7_reachMemory_9 ⟨Nat.zero_le _, Nat.zero_le _⟩ ?_
    refine lv_aload_n hx hb dX7_reachMemory_12 rfl (lv_at hl 3 rfl) ?_
    refine lv_iload_n hx hb dX7_reachMemory_13 rfl (lv_at hl 1 rfl) ?_
    refine roVl (As := [.int ad]) (rest := [.int (F_X1_i ii), .ref hG]) (bytes := cX3_load) (maxL := 2) (rty := (some .long)) (n := 1) (ci := 2) C0 (c_X3_load l dC dI cI cJ hM m1 m2 ad mw) ⟨rfl, rfl, rfl, by decide +kernel, by decide, by decide⟩ ggX7_reachMemory_X3_load mm_X7_reachMemory_iX3 mm_X7_reachMemory_l112 mm_X7_reachMemory_nX3_load mm_X7_reachMemory_sX3_load rfl rfl (hP.sub (ws' := [(hM, .inr (2, [.ref m1, .ref m2])), (m1, .inl (cJ, 512, .inr (.inl mw)))]) [3, 4] rfl) hK hl.1 rfl rfl (Nat.le_of_ble_eq_true rfl) dX7_reachMemory_14 ⟨Nat.zero_le _, Nat.zero_le _⟩ ?_
    refine wrVv (As := [.int (F_X1_i ii), .long (F_X3_load ad mw)]) (rest := []) (bytes := cX6_set) (maxL := 4) (rty := none) (n := 2) (ci := 4) C0 (c_X6_set l dC dI cI cJ hG g1 (F_X1_i ii) (F_X3_load ad mw) gv (R8.x hi)) ⟨rfl, rfl, rfl, by decide +kernel, by decide, by decide⟩ ggX7_reachMemory_X6_set mm_X7_reachMemory_iX6 mm_X7_reachMemory_l39 mm_X7_reachMemory_nX6_set mm_X7_reachMemory_sX6_set rfl rfl hP hD hK hS hA (Zs.no _ _ _) [1, 2] [0, 3, 4] [0, 3, 4, 1, 2] [(hI, .inr (1, [.int iop, .int ii, .int ij, .int ik, .int ic, .int ip, .int iu, .ref hN, .ref hR])), (hM, .inr (2, [.ref m1, .ref m2])), (m1, .inl (cJ, 512, .inr (.inl mw)))] [(hI, .inr (1, [.int iop, .int ii, .int ij, .int ik, .int ic, .int ip, .int iu, .ref hN, .ref hR])), (hG, .inr (4, [.ref g1])), (g1, .inl (cJ, 24, .inr (.inl (F_X6_set (F_X1_i ii) (F_X3_load ad mw) gv)))), (hM, .inr (2, [.ref m1, .ref m2])), (m1, .inl (cJ, 512, .inr (.inl mw)))] rfl (by decide) (hP.sub (ws' := [(hG, .inr (4, [.ref g1])), (g1, .inl (cJ, 24, .inr (.inl gv)))]) [1, 2] rfl) rfl (by decide) (by decide) (by decide) rfl hl.1 rfl rfl (Nat.le_of_ble_eq_true rfl) dX7_reachMemory_17 ⟨Nat.zero_le _, Nat.zero_le _⟩ (fun H locs hP hD hS => ?_)
    refine lv_goto (tgt := 43) hx hb dX7_reachMemory_20 (by decide) ?_
    have e9 : (F_X7_reachMemory ad iop ii gv mw ) = ((F_X6_set (F_X1_i ii) (F_X3_load ad mw) gv), mw) := by rw [F_X7_reachMemory, if_neg c1]
    rw [e9] at hV
    subst hV
    exact wrRetV C0 hK hP hD hS dX7_reachMemory_43
theorem c_X7_reachMemory (l : Launch) (dC : Nat → ClassId) (dI : Nat → Nat → Nat) (cI cJ : ClassId) (hI hG g1 hM m1 hN hR m2 : Nat) (ad : Int32) (iop : Int32) (ii : Int32) (ij : Int32) (ik : Int32) (ic : Int32) (ip : Int32) (iu : Int32) (gv : Nat → Int64) (mw : Nat → Int64) (hi : R8 ii) (hj : R8 ij) (hk : R8 ik) : WrV false l yX7_reachMemory wsX7_reachMemory rm_X7_reachMemory (dC, dI) [(cI, .int), (cJ, .long)] [(hI, .inr (1, [.int iop, .int ii, .int ij, .int ik, .int ic, .int ip, .int iu, .ref hN, .ref hR])), (hG, .inr (4, [.ref g1])), (g1, .inl (cJ, 24, .inr (.inl gv))), (hM, .inr (2, [.ref m1, .ref m2])), (m1, .inl (cJ, 512, .inr (.inl mw)))] [(hI, .inr (1, [.int iop, .int ii, .int ij, .int ik, .int ic, .int ip, .int iu, .ref hN, .ref hR])), (hG, .inr (4, [.ref g1])), (g1, .inl (cJ, 24, .inr (.inl ((F_X7_reachMemory ad iop ii gv mw ).1)))), (hM, .inr (2, [.ref m1, .ref m2])), (m1, .inl (cJ, 512, .inr (.inl ((F_X7_reachMemory ad iop ii gv mw ).2))))] [.ref hI, .int ad, .ref hG, .ref hM] := by
  refine WrV.mk (cc := cX7_reachMemory) (nL := 4) (ret := none) [(0, .ref hI), (1, .int ad), (2, .ref hG), (3, .ref hM)] (by decide) rfl (Nat.le_of_ble_eq_true rfl) rfl ?_
  intro p e s m below meth c C0 hP hK hD hS hZ ls hl
  exact w_X7_reachMemory dC dI cI cJ hI hG g1 hM m1 hN hR m2 ad iop ii ij ik ic ip iu gv mw C0 hK hZ hi hj hk rfl ls hl hP hD hS

-- X7_applyAddress
def F_X7_applyAddress (iop : Int32) (ii : Int32) (ij : Int32) (ik : Int32) (ic : Int32) (gv : Nat → Int64) (mw : Nat → Int64) : (Nat → Int64) × (Nat → Int64) :=
  (if ((F_X1_op iop) >>> ((3 : Int32) &&& 31)) = (5 : Int32) then (((F_X7_reachMemory ((F_X7_shortSum iop ij ik ic gv).toInt32) iop ii (F_X6_set ((8 : Int32) + (F_X1_i ii)) (F_X7_shortSum iop ij ik ic gv) gv) mw).1), ((F_X7_reachMemory ((F_X7_shortSum iop ij ik ic gv).toInt32) iop ii (F_X6_set ((8 : Int32) + (F_X1_i ii)) (F_X7_shortSum iop ij ik ic gv) gv) mw).2)) else (if ((F_X1_op iop) >>> ((3 : Int32) &&& 31)) = (6 : Int32) then ((F_X6_set ((16 : Int32) + (F_X1_i ii)) (F_X7_shortSum iop ij ik ic gv) gv), mw) else ((F_X6_set (F_X1_i ii) (F_X4_extended (F_X7_shortSum iop ij ik ic gv)) gv), mw)))
abbrev rm_X7_applyAddress : Room := { frames := 3, cells := 0, slots := 0, locals := 82 }
set_option maxRecDepth 20000 in
theorem mm_X7_applyAddress_iX1 : Cond.initialized RX1 ∈ wsX7_applyAddress := by decide +kernel
set_option maxRecDepth 20000 in
theorem mm_X7_applyAddress_iX4 : Cond.initialized RX4 ∈ wsX7_applyAddress := by decide +kernel
set_option maxRecDepth 20000 in
theorem mm_X7_applyAddress_iX6 : Cond.initialized RX6 ∈ wsX7_applyAddress := by decide +kernel
set_option maxRecDepth 20000 in
theorem mm_X7_applyAddress_iX7 : Cond.initialized RX7 ∈ wsX7_applyAddress := by decide +kernel
set_option maxRecDepth 20000 in
theorem mm_X7_applyAddress_l100 : Cond.methodLink RX7 100 yX7_reachMemory ∈ wsX7_applyAddress := by decide +kernel
set_option maxRecDepth 20000 in
theorem mm_X7_applyAddress_l104 : Cond.methodLink RX7 104 yX4_extended ∈ wsX7_applyAddress := by decide +kernel
set_option maxRecDepth 20000 in
theorem mm_X7_applyAddress_l15 : Cond.methodLink RX7 15 yX1_i ∈ wsX7_applyAddress := by decide +kernel
set_option maxRecDepth 20000 in
theorem mm_X7_applyAddress_l18 : Cond.methodLink RX7 18 yX1_op ∈ wsX7_applyAddress := by decide +kernel
set_option maxRecDepth 20000 in
theorem mm_X7_applyAddress_l39 : Cond.methodLink RX7 39 yX6_set ∈ wsX7_applyAddress := by decide +kernel
set_option maxRecDepth 20000 in
theorem mm_X7_applyAddress_l97 : Cond.methodLink RX7 97 yX7_shortSum ∈ wsX7_applyAddress := by decide +kernel
set_option maxRecDepth 20000 in
theorem mm_X7_applyAddress_nX1_i : Cond.instanceMethod yX1_i ∈ wsX7_applyAddress := by decide +kernel
set_option maxRecDepth 20000 in
theorem mm_X7_applyAddress_nX1_op : Cond.instanceMethod yX1_op ∈ wsX7_applyAddress := by decide +kernel
set_option maxRecDepth 20000 in
theorem mm_X7_applyAddress_nX6_set : Cond.instanceMethod yX6_set ∈ wsX7_applyAddress := by decide +kernel
set_option maxRecDepth 20000 in
theorem mm_X7_applyAddress_sX1_i : Cond.selects RX1 yX1_i yX1_i ∈ wsX7_applyAddress := by decide +kernel
set_option maxRecDepth 20000 in
theorem mm_X7_applyAddress_sX1_op : Cond.selects RX1 yX1_op yX1_op ∈ wsX7_applyAddress := by decide +kernel
set_option maxRecDepth 20000 in
theorem mm_X7_applyAddress_sX6_set : Cond.selects RX6 yX6_set yX6_set ∈ wsX7_applyAddress := by decide +kernel
set_option maxRecDepth 20000 in
theorem mm_X7_applyAddress_tX4_extended : Cond.static yX4_extended ∈ wsX7_applyAddress := by decide +kernel
set_option maxRecDepth 20000 in
theorem mm_X7_applyAddress_tX7_reachMemory : Cond.static yX7_reachMemory ∈ wsX7_applyAddress := by decide +kernel
set_option maxRecDepth 20000 in
theorem mm_X7_applyAddress_tX7_shortSum : Cond.static yX7_shortSum ∈ wsX7_applyAddress := by decide +kernel
set_option maxHeartbeats 4000000 in
set_option maxRecDepth 100000 in
theorem w_X7_applyAddress {p : Program} {l : Launch} {e : Env} {s : State} {m : MethodId} {below : List Frame} {meth : Method} {c : Code} {args : Array Value} (dC : Nat → ClassId) (dI : Nat → Nat → Nat) (cI cJ : ClassId) (hI hG g1 hM m1 hN hR m2 : Nat) (iop : Int32) (ii : Int32) (ij : Int32) (ik : Int32) (ic : Int32) (ip : Int32) (iu : Int32) (gv : Nat → Int64) (mw : Nat → Int64) {w0 : va_W} (C0 : Cx p s m meth c cX7_applyAddress 6 none wsX7_applyAddress RX7 args) (hK : va_K (dC, dI) vwCl [(cI, .int), (cJ, .long)] s) (hZ : Zs false (va_A w0 s.heap.size) s s.heap) (hi : R8 ii) (hj : R8 ij) (hk : R8 ik) {V : (Nat → Int64) × (Nat → Int64)} (hV : (F_X7_applyAddress iop ii ij ik ic gv mw ) = V) (ls : Array Slot) (hl : lv_has ls 6 [(0, .ref hI), (1, .ref hG), (2, .ref hM)]) {H : Heap} {locs : List Loc} (hP : va_P (dC, dI) vwCl [(hI, .inr (1, [.int iop, .int ii, .int ij, .int ik, .int ic, .int ip, .int iu, .ref hN, .ref hR])), (hG, .inr (4, [.ref g1])), (g1, .inl (cJ, 24, .inr (.inl gv))), (hM, .inr (2, [.ref m1, .ref m2])), (m1, .inl (cJ, 512, .inr (.inl mw)))] H) (hD : va_D (va_A w0 s.heap.size) [(hI, .inr (1, [.int iop, .int ii, .int ij, .int ik, .int ic, .int ip, .int iu, .ref hN, .ref hR])), (hG, .inr (4, [.ref g1])), (g1, .inl (cJ, 24, .inr (.inl gv))), (hM, .inr (2, [.ref m1, .ref m2])), (m1, .inl (cJ, 512, .inr (.inl mw)))]) (hS : va_S (va_A w0 s.heap.size) s.heap H locs) : W p l e rm_X7_applyAddress s m args below meth c H locs 0 0 (MQ below (QV (dC, dI) [(cI, .int), (cJ, .long)] w0 [(hI, .inr (1, [.int iop, .int ii, .int ij, .int ik, .int ic, .int ip, .int iu, .ref hN, .ref hR])), (hG, .inr (4, [.ref g1])), (g1, .inl (cJ, 24, .inr (.inl V.1))), (hM, .inr (2, [.ref m1, .ref m2])), (m1, .inl (cJ, 512, .inr (.inl V.2)))] s.heap.size) args s 0 0 (va_A w0 s.heap.size)) (F0 m 0 ls []) := by
  obtain ⟨hx, hb, hr, hlk, hml, hown, hts⟩ := id C0
  have hA : ∀ q : Nat, s.heap.size ≤ q → va_A w0 s.heap.size q := fun q h => Or.inr h
  refine lv_aload_n hx hb dX7_applyAddress_0 rfl (lv_at hl 0 rfl) ?_
  refine lv_aload_n hx hb dX7_applyAddress_1 rfl (lv_at hl 1 rfl) ?_
  refine roSl (As := [.ref hI, .ref hG]) (rest := []) (bytes := cX7_shortSum) (maxL := 10) (rty := (some .long)) (n := 2) C0 (c_X7_shortSum l dC dI cI cJ hI hG g1 hN hR iop ii ij ik ic ip iu gv hi hj hk) ⟨rfl, rfl, rfl, by decide +kernel, by decide, by decide⟩ ggX7_applyAddress_X7_shortSum mm_X7_applyAddress_iX7 mm_X7_applyAddress_l97 mm_X7_applyAddress_tX7_shortSum (hP.sub (ws' := [(hI, .inr (1, [.int iop, .int ii, .int ij, .int ik, .int ic, .int ip, .int iu, .ref hN, .ref hR])), (hG, .inr (4, [.ref g1])), (g1, .inl (cJ, 24, .inr (.inl gv)))]) [0, 1, 2] rfl) hK hl.1 rfl rfl (Nat.le_of_ble_eq_true rfl) dX7_applyAddress_2 ⟨Nat.zero_le _, Nat.zero_le _⟩ ?_
  refine lv_lstore_n (lv' := [(3, .long (F_X7_shortSum iop ij ik ic gv)), (0, .ref hI), (1, .ref hG), (2, .ref hM)]) hx hb dX7_applyAddress_5 rfl hl (by decide) rfl (fun ls hl => ?_)
  refine lv_aload_n hx hb dX7_applyAddress_6 rfl (lv_at hl 1 rfl) ?_
  refine roVi (As := []) (rest := []) (bytes := cX1_i) (maxL := 1) (rty := (some .int)) (n := 0) (ci := 1) C0 (c_X1_i l dC dI cI cJ hI hN hR iop ii ij ik ic ip iu) ⟨rfl, rfl, rfl, by decide +kernel, by decide, by decide⟩ ggX7_applyAddress_X1_i mm_X7_applyAddress_iX1 mm_X7_applyAddress_l15 mm_X7_applyAddress_nX1_i mm_X7_applyAddress_sX1_i rfl rfl (hP.sub (ws' := [(hI, .inr (1, [.int iop, .int ii, .int ij, .int ik, .int ic, .int ip, .int iu, .ref hN, .ref hR]))]) [0] rfl) hK hl.1 rfl rfl (Nat.le_of_ble_eq_true rfl) dX7_applyAddress_7 ⟨Nat.zero_le _, Nat.zero_le _⟩ ?_
  refine lv_istore (lv' := [(5, .int (F_X1_i ii)), (3, .long (F_X7_shortSum iop ij ik ic gv)), (0, .ref hI), (1, .ref hG), (2, .ref hM)]) hx hb dX7_applyAddress_10 hl (by decide) rfl (fun ls hl => ?_)
  refine lv_aload_n hx hb dX7_applyAddress_12 rfl (lv_at hl 2 rfl) ?_
  refine roVi (As := []) (rest := []) (bytes := cX1_op) (maxL := 1) (rty := (some .int)) (n := 0) (ci := 1) C0 (c_X1_op l dC dI cI cJ hI hN hR iop ii ij ik ic ip iu) ⟨rfl, rfl, rfl, by decide +kernel, by decide, by decide⟩ ggX7_applyAddress_X1_op mm_X7_applyAddress_iX1 mm_X7_applyAddress_l18 mm_X7_applyAddress_nX1_op mm_X7_applyAddress_sX1_op rfl rfl (hP.sub (ws' := [(hI, .inr (1, [.int iop, .int ii, .int ij, .int ik, .int ic, .int ip, .int iu, .ref hN, .ref hR]))]) [0] rfl) hK hl.1 rfl rfl (Nat.le_of_ble_eq_true rfl) dX7_applyAddress_13 ⟨Nat.zero_le _, Nat.zero_le _⟩ ?_
  refine lv_iconst (v := (3 : Int32)) hx hb dX7_applyAddress_16 (by decide) ?_
  refine lv_ishr hx hb dX7_applyAddress_17 ?_
  by_cases c1 : ((F_X1_op iop) >>> ((3 : Int32) &&& 31)) = (5 : Int32)
  · refine lv_lookup (off := 26) (tgt := 44) hx hb dX7_applyAddress_18 (by decide) (by rw [c1]; first | done | rfl) (by decide) ?_
    refine lv_aload_n hx hb dX7_applyAddress_44 rfl (lv_at hl 3 rfl) ?_
    refine lv_bipush (v := (8 : Int32)) hx hb dX7_applyAddress_45 (by decide) ?_
    refine lv_iload hx hb dX7_applyAddress_47 (lv_at hl 0 rfl) ?_
    refine lv_iadd hx hb dX7_applyAddress_49 ?_
    refine lv_lload_n hx hb dX7_applyAddress_50 rfl (lv_at hl 1 rfl) ?_
    refine wrVv (As := [.int ((8 : Int32) + (F_X1_i ii)), .long (F_X7_shortSum iop ij ik ic gv)]) (rest := []) (bytes := cX6_set) (maxL := 4) (rty := none) (n := 2) (ci := 4) C0 (c_X6_set l dC dI cI cJ hG g1 ((8 : Int32) + (F_X1_i ii)) (F_X7_shortSum iop ij ik ic gv) gv (R8.a hi)) ⟨rfl, rfl, rfl, by decide +kernel, by decide, by decide⟩ ggX7_applyAddress_X6_set mm_X7_applyAddress_iX6 mm_X7_applyAddress_l39 mm_X7_applyAddress_nX6_set mm_X7_applyAddress_sX6_set rfl rfl hP hD hK hS hA (Zs.no _ _ _) [1, 2] [0, 3, 4] [0, 3, 4, 1, 2] [(hI, .inr (1, [.int iop, .int ii, .int ij, .int ik, .int ic, .int ip, .int iu, .ref hN, .ref hR])), (hM, .inr (2, [.ref m1, .ref m2])), (m1, .inl (cJ, 512, .inr (.inl mw)))] [(hI, .inr (1, [.int iop, .int ii, .int ij, .int ik, .int ic, .int ip, .int iu, .ref hN, .ref hR])), (hG, .inr (4, [.ref g1])), (g1, .inl (cJ, 24, .inr (.inl (F_X6_set ((8 : Int32) + (F_X1_i ii)) (F_X7_shortSum iop ij ik ic gv) gv)))), (hM, .inr (2, [.ref m1, .ref m2])), (m1, .inl (cJ, 512, .inr (.inl mw)))] rfl (by decide) (hP.sub (ws' := [(hG, .inr (4, [.ref g1])), (g1, .inl (cJ, 24, .inr (.inl gv)))]) [1, 2] rfl) rfl (by decide) (by decide) (by decide) rfl hl.1 rfl rfl (Nat.le_of_ble_eq_true rfl) dX7_applyAddress_51 ⟨Nat.zero_le _, Nat.zero_le _⟩ (fun H locs hP hD hS => ?_)
    refine lv_aload_n hx hb dX7_applyAddress_54 rfl (lv_at hl 2 rfl) ?_
    refine lv_lload_n hx hb dX7_applyAddress_55 rfl (lv_at hl 1 rfl) ?_
    refine lv_l2i hx hb dX7_applyAddress_56 rfl ?_
    refine lv_aload_n hx hb dX7_applyAddress_57 rfl (lv_at hl 3 rfl) ?_
    refine lv_aload_n hx hb dX7_applyAddress_58 rfl (lv_at hl 4 rfl) ?_
    refine wrSv (As := [.ref hI, .int (F_X7_shortSum iop ij ik ic gv).toInt32, .ref hG, .ref hM]) (rest := []) (bytes := cX7_reachMemory) (maxL := 4) (rty := none) (n := 4) C0 (c_X7_reachMemory l dC dI cI cJ hI hG g1 hM m1 hN hR m2 ((F_X7_shortSum iop ij ik ic gv).toInt32) iop ii ij ik ic ip iu (F_X6_set ((8 : Int32) + (F_X1_i ii)) (F_X7_shortSum iop ij ik ic gv) gv) mw hi hj hk) ⟨rfl, rfl, rfl, by decide +kernel, by decide, by decide⟩ ggX7_applyAddress_X7_reachMemory mm_X7_applyAddress_iX7 mm_X7_applyAddress_l100 mm_X7_applyAddress_tX7_reachMemory hP hD hK hS hA (Zs.no _ _ _) [0, 1, 2, 3, 4] [] [0, 1, 2, 3, 4] [] [(hI, .inr (1, [.int iop, .int ii, .int ij, .int ik, .int ic, .int ip, .int iu, .ref hN, .ref hR])), (hG, .inr (4, [.ref g1])), (g1, .inl (cJ, 24, .inr (.inl ((F_X7_reachMemory ((F_X7_shortSum iop ij ik ic gv).toInt32) iop ii (F_X6_set ((8 : Int32) + (F_X1_i ii)) (F_X7_shortSum iop ij ik ic gv) gv) mw).1)))), (hM, .inr (2, [.ref m1, .ref m2])), (m1, .inl (cJ, 512, .inr (.inl ((F_X7_reachMemory ((F_X7_shortSum iop ij ik ic gv).toInt32) iop ii (F_X6_set ((8 : Int32) + (F_X1_i ii)) (F_X7_shortSum iop ij ik ic gv) gv) mw).2))))] rfl (by decide) (hP.sub (ws' := [(hI, .inr (1, [.int iop, .int ii, .int ij, .int ik, .int ic, .int ip, .int iu, .ref hN, .ref hR])), (hG, .inr (4, [.ref g1])), (g1, .inl (cJ, 24, .inr (.inl (F_X6_set ((8 : Int32) + (F_X1_i ii)) (F_X7_shortSum iop ij ik ic gv) gv)))), (hM, .inr (2, [.ref m1, .ref m2])), (m1, .inl (cJ, 512, .inr (.inl mw)))]) [0, 1, 2, 3, 4] rfl) rfl (by decide) (by decide) (by decide) rfl hl.1 rfl rfl (Nat.le_of_ble_eq_true rfl) dX7_applyAddress_59 ⟨Nat.zero_le _, Nat.zero_le _⟩ (fun H locs hP hD hS => ?_)
    refine lv_goto (tgt := 88) hx hb dX7_applyAddress_62 (by decide) ?_
    have e9 : (F_X7_applyAddress iop ii ij ik ic gv mw ) = (((F_X7_reachMemory ((F_X7_shortSum iop ij ik ic gv).toInt32) iop ii (F_X6_set ((8 : Int32) + (F_X1_i ii)) (F_X7_shortSum iop ij ik ic gv) gv) mw).1), ((F_X7_reachMemory ((F_X7_shortSum iop ij ik ic gv).toInt32) iop ii (F_X6_set ((8 : Int32) + (F_X1_i ii)) (F_X7_shortSum iop ij ik ic gv) gv) mw).2)) := by rw [F_X7_applyAddress, if_pos c1]
    rw [e9] at hV
    subst hV
    exact wrRetV C0 hK hP hD hS dX7_applyAddress_88
  by_cases c2 : ((F_X1_op iop) >>> ((3 : Int32) &&& 31)) = (6 : Int32)
  · refine lv_lookup (off := 47) (tgt := 65) hx hb dX7_applyAddress_18 (by decide) (by rw [c2]; first | done | rfl) (by decide) ?_
    refine lv_aload_n hx hb dX7_applyAddress_65 rfl (lv_at hl 3 rfl) ?_
    refine lv_bipush (v := (16 : Int32)) hx hb dX7_applyAddress_66 (by decide) ?_
    refine lv_iload hx hb dX7_applyAddress_68 (lv_at hl 0 rfl) ?_
    refine lv_iadd hx hb dX7_applyAddress_70 ?_
    refine lv_lload_n hx hb dX7_applyAddress_71 rfl (lv_at hl 1 rfl) ?_
    refine wrVv (As := [.int ((16 : Int32) + (F_X1_i ii)), .long (F_X7_shortSum iop ij ik ic gv)]) (rest := []) (bytes := cX6_set) (maxL := 4) (rty := none) (n := 2) (ci := 4) C0 (c_X6_set l dC dI cI cJ hG g1 ((16 : Int32) + (F_X1_i ii)) (F_X7_shortSum iop ij ik ic gv) gv (R8.b hi)) ⟨rfl, rfl, rfl, by decide +kernel, by decide, by decide⟩ ggX7_applyAddress_X6_set mm_X7_applyAddress_iX6 mm_X7_applyAddress_l39 mm_X7_applyAddress_nX6_set mm_X7_applyAddress_sX6_set rfl rfl hP hD hK hS hA (Zs.no _ _ _) [1, 2] [0, 3, 4] [0, 3, 4, 1, 2] [(hI, .inr (1, [.int iop, .int ii, .int ij, .int ik, .int ic, .int ip, .int iu, .ref hN, .ref hR])), (hM, .inr (2, [.ref m1, .ref m2])), (m1, .inl (cJ, 512, .inr (.inl mw)))] [(hI, .inr (1, [.int iop, .int ii, .int ij, .int ik, .int ic, .int ip, .int iu, .ref hN, .ref hR])), (hG, .inr (4, [.ref g1])), (g1, .inl (cJ, 24, .inr (.inl (F_X6_set ((16 : Int32) + (F_X1_i ii)) (F_X7_shortSum iop ij ik ic gv) gv)))), (hM, .inr (2, [.ref m1, .ref m2])), (m1, .inl (cJ, 512, .inr (.inl mw)))] rfl (by decide) (hP.sub (ws' := [(hG, .inr (4, [.ref g1])), (g1, .inl (cJ, 24, .inr (.inl gv)))]) [1, 2] rfl) rfl (by decide) (by decide) (by decide) rfl hl.1 rfl rfl (Nat.le_of_ble_eq_true rfl) dX7_applyAddress_72 ⟨Nat.zero_le _, Nat.zero_le _⟩ (fun H locs hP hD hS => ?_)
    refine lv_goto (tgt := 88) hx hb dX7_applyAddress_75 (by decide) ?_
    have e9 : (F_X7_applyAddress iop ii ij ik ic gv mw ) = ((F_X6_set ((16 : Int32) + (F_X1_i ii)) (F_X7_shortSum iop ij ik ic gv) gv), mw) := by rw [F_X7_applyAddress, if_neg c1, if_pos c2]
    rw [e9] at hV
    subst hV
    exact wrRetV C0 hK hP hD hS dX7_applyAddress_88
  refine lv_lookup (off := 60) (tgt := 78) hx hb dX7_applyAddress_18 (by decide) (by show Op.lookupswitch.offset [(5, 26), (6, 47)] _ _ = _; rw [lv_osw c1 (by decide), lv_osw c2 (by decide)]; first | done | rfl) (by decide) ?_
  refine lv_aload_n hx hb dX7_applyAddress_78 rfl (lv_at hl 3 rfl) ?_
  refine lv_iload hx hb dX7_applyAddress_79 (lv_at hl 0 rfl) ?_
  refine lv_lload_n hx hb dX7_applyAddress_81 rfl (lv_at hl 1 rfl) ?_
  refine roSl (As := [.long (F_X7_shortSum iop ij ik ic gv)]) (rest := [.int (F_X1_i ii), .ref hG]) (bytes := cX4_extended) (maxL := 2) (rty := (some .long)) (n := 1) C0 (c_X4_extended l dC dI cI cJ (F_X7_shortSum iop ij ik ic gv)) ⟨rfl, rfl, rfl, by decide +kernel, by decide, by decide⟩ ggX7_applyAddress_X4_extended mm_X7_applyAddress_iX4 mm_X7_applyAddress_l104 mm_X7_applyAddress_tX4_extended (hP.sub (ws' := []) [] rfl) hK hl.1 rfl rfl (Nat.le_of_ble_eq_true rfl) dX7_applyAddress_82 ⟨Nat.zero_le _, Nat.zero_le _⟩ ?_
  refine wrVv (As := [.int (F_X1_i ii), .long (F_X4_extended (F_X7_shortSum iop ij ik ic gv))]) (rest := []) (bytes := cX6_set) (maxL := 4) (rty := none) (n := 2) (ci := 4) C0 (c_X6_set l dC dI cI cJ hG g1 (F_X1_i ii) (F_X4_extended (F_X7_shortSum iop ij ik ic gv)) gv (R8.x hi)) ⟨rfl, rfl, rfl, by decide +kernel, by decide, by decide⟩ ggX7_applyAddress_X6_set mm_X7_applyAddress_iX6 mm_X7_applyAddress_l39 mm_X7_applyAddress_nX6_set mm_X7_applyAddress_sX6_set rfl rfl hP hD hK hS hA (Zs.no _ _ _) [1, 2] [0, 3, 4] [0, 3, 4, 1, 2] [(hI, .inr (1, [.int iop, .int ii, .int ij, .int ik, .int ic, .int ip, .int iu, .ref hN, .ref hR])), (hM, .inr (2, [.ref m1, .ref m2])), (m1, .inl (cJ, 512, .inr (.inl mw)))] [(hI, .inr (1, [.int iop, .int ii, .int ij, .int ik, .int ic, .int ip, .int iu, .ref hN, .ref hR])), (hG, .inr (4, [.ref g1])), (g1, .inl (cJ, 24, .inr (.inl (F_X6_set (F_X1_i ii) (F_X4_extended (F_X7_shortSum iop ij ik ic gv)) gv)))), (hM, .inr (2, [.ref m1, .ref m2])), (m1, .inl (cJ, 512, .inr (.inl mw)))] rfl (by decide) (hP.sub (ws' := [(hG, .inr (4, [.ref g1])), (g1, .inl (cJ, 24, .inr (.inl gv)))]) [1, 2] rfl) rfl (by decide) (by decide) (by decide) rfl hl.1 rfl rfl (Nat.le_of_ble_eq_true rfl) dX7_applyAddress_85 ⟨Nat.zero_le _, Nat.zero_le _⟩ (fun H locs hP hD hS => ?_)
  have e9 : (F_X7_applyAddress iop ii ij ik ic gv mw ) = ((F_X6_set (F_X1_i ii) (F_X4_extended (F_X7_shortSum iop ij ik ic gv)) gv), mw) := by rw [F_X7_applyAddress, if_neg c1, if_neg c2]
  rw [e9] at hV
  subst hV
  exact wrRetV C0 hK hP hD hS dX7_applyAddress_88
theorem c_X7_applyAddress (l : Launch) (dC : Nat → ClassId) (dI : Nat → Nat → Nat) (cI cJ : ClassId) (hI hG g1 hM m1 hN hR m2 : Nat) (iop : Int32) (ii : Int32) (ij : Int32) (ik : Int32) (ic : Int32) (ip : Int32) (iu : Int32) (gv : Nat → Int64) (mw : Nat → Int64) (hi : R8 ii) (hj : R8 ij) (hk : R8 ik) : WrV false l yX7_applyAddress wsX7_applyAddress rm_X7_applyAddress (dC, dI) [(cI, .int), (cJ, .long)] [(hI, .inr (1, [.int iop, .int ii, .int ij, .int ik, .int ic, .int ip, .int iu, .ref hN, .ref hR])), (hG, .inr (4, [.ref g1])), (g1, .inl (cJ, 24, .inr (.inl gv))), (hM, .inr (2, [.ref m1, .ref m2])), (m1, .inl (cJ, 512, .inr (.inl mw)))] [(hI, .inr (1, [.int iop, .int ii, .int ij, .int ik, .int ic, .int ip, .int iu, .ref hN, .ref hR])), (hG, .inr (4, [.ref g1])), (g1, .inl (cJ, 24, .inr (.inl ((F_X7_applyAddress iop ii ij ik ic gv mw ).1)))), (hM, .inr (2, [.ref m1, .ref m2])), (m1, .inl (cJ, 512, .inr (.inl ((F_X7_applyAddress iop ii ij ik ic gv mw ).2))))] [.ref hI, .ref hG, .ref hM] := by
  refine WrV.mk (cc := cX7_applyAddress) (nL := 6) (ret := none) [(0, .ref hI), (1, .ref hG), (2, .ref hM)] (by decide) rfl (Nat.le_of_ble_eq_true rfl) rfl ?_
  intro p e s m below meth c C0 hP hK hD hS hZ ls hl
  exact w_X7_applyAddress dC dI cI cJ hI hG g1 hM m1 hN hR m2 iop ii ij ik ic ip iu gv mw C0 hK hZ hi hj hk rfl ls hl hP hD hS

-- X7_apply
def F_X7_apply (iop : Int32) (ii : Int32) (ij : Int32) (ik : Int32) (ic : Int32) (iu : Int32) (gv : Nat → Int64) (mw : Nat → Int64) : (Nat → Int64) × (Nat → Int64) :=
  (if (F_X1_unit iu) = (0 : Int32) then ((F_X6_set (F_X1_i ii) (F_X7_logic (F_X1_op iop) (F_X6_x (F_X1_j ij) gv) (F_X6_x (F_X1_k ik) gv)) gv), mw) else (if (F_X1_unit iu) = (1 : Int32) then ((F_X6_set (F_X1_i ii) (F_X7_shift iop ii ij ik gv) gv), mw) else (if (F_X1_unit iu) = (2 : Int32) then ((F_X6_set (F_X1_i ii) (F_X7_wordSum (F_X1_op iop) (F_X6_x (F_X1_j ij) gv) (F_X6_x (F_X1_k ik) gv)) gv), mw) else (if (F_X1_unit iu) = (3 : Int32) then ((F_X6_set (F_X1_i ii) ((F_J13_bitCount_95d88 (F_X6_x (F_X1_k ik) gv)).toInt64) gv), mw) else (if (F_X1_unit iu) = (4 : Int32) then (((F_X7_applyAddress iop ii ij ik ic gv mw).1), ((F_X7_applyAddress iop ii ij ik ic gv mw).2)) else (gv, mw))))))
abbrev rm_X7_apply : Room := { frames := 4, cells := 0, slots := 0, locals := 107 }
set_option maxRecDepth 20000 in
theorem mm_X7_apply_iJ13 : Cond.initialized RJ13 ∈ wsX7_apply := by decide +kernel
set_option maxRecDepth 20000 in
theorem mm_X7_apply_iX1 : Cond.initialized RX1 ∈ wsX7_apply := by decide +kernel
set_option maxRecDepth 20000 in
theorem mm_X7_apply_iX6 : Cond.initialized RX6 ∈ wsX7_apply := by decide +kernel
set_option maxRecDepth 20000 in
theorem mm_X7_apply_iX7 : Cond.initialized RX7 ∈ wsX7_apply := by decide +kernel
set_option maxRecDepth 20000 in
theorem mm_X7_apply_l15 : Cond.methodLink RX7 15 yX1_i ∈ wsX7_apply := by decide +kernel
set_option maxRecDepth 20000 in
theorem mm_X7_apply_l18 : Cond.methodLink RX7 18 yX1_op ∈ wsX7_apply := by decide +kernel
set_option maxRecDepth 20000 in
theorem mm_X7_apply_l21 : Cond.methodLink RX7 21 yX1_j ∈ wsX7_apply := by decide +kernel
set_option maxRecDepth 20000 in
theorem mm_X7_apply_l24 : Cond.methodLink RX7 24 yX6_x ∈ wsX7_apply := by decide +kernel
set_option maxRecDepth 20000 in
theorem mm_X7_apply_l30 : Cond.methodLink RX7 30 yX1_k ∈ wsX7_apply := by decide +kernel
set_option maxRecDepth 20000 in
theorem mm_X7_apply_l33 : Cond.methodLink RX7 33 yX7_logic ∈ wsX7_apply := by decide +kernel
set_option maxRecDepth 20000 in
theorem mm_X7_apply_l39 : Cond.methodLink RX7 39 yX6_set ∈ wsX7_apply := by decide +kernel
set_option maxRecDepth 20000 in
theorem mm_X7_apply_l43 : Cond.methodLink RX7 43 yX7_shift ∈ wsX7_apply := by decide +kernel
set_option maxRecDepth 20000 in
theorem mm_X7_apply_l47 : Cond.methodLink RX7 47 yX7_wordSum ∈ wsX7_apply := by decide +kernel
set_option maxRecDepth 20000 in
theorem mm_X7_apply_l50 : Cond.methodLink RX7 50 yJ13_bitCount_95d88 ∈ wsX7_apply := by decide +kernel
set_option maxRecDepth 20000 in
theorem mm_X7_apply_l56 : Cond.methodLink RX7 56 yX7_applyAddress ∈ wsX7_apply := by decide +kernel
set_option maxRecDepth 20000 in
theorem mm_X7_apply_l9 : Cond.methodLink RX7 9 yX1_unit ∈ wsX7_apply := by decide +kernel
set_option maxRecDepth 20000 in
theorem mm_X7_apply_nX1_i : Cond.instanceMethod yX1_i ∈ wsX7_apply := by decide +kernel
set_option maxRecDepth 20000 in
theorem mm_X7_apply_nX1_j : Cond.instanceMethod yX1_j ∈ wsX7_apply := by decide +kernel
set_option maxRecDepth 20000 in
theorem mm_X7_apply_nX1_k : Cond.instanceMethod yX1_k ∈ wsX7_apply := by decide +kernel
set_option maxRecDepth 20000 in
theorem mm_X7_apply_nX1_op : Cond.instanceMethod yX1_op ∈ wsX7_apply := by decide +kernel
set_option maxRecDepth 20000 in
theorem mm_X7_apply_nX1_unit : Cond.instanceMethod yX1_unit ∈ wsX7_apply := by decide +kernel
set_option maxRecDepth 20000 in
theorem mm_X7_apply_nX6_set : Cond.instanceMethod yX6_set ∈ wsX7_apply := by decide +kernel
set_option maxRecDepth 20000 in
theorem mm_X7_apply_nX6_x : Cond.instanceMethod yX6_x ∈ wsX7_apply := by decide +kernel
set_option maxRecDepth 20000 in
theorem mm_X7_apply_sX1_i : Cond.selects RX1 yX1_i yX1_i ∈ wsX7_apply := by decide +kernel
set_option maxRecDepth 20000 in
theorem mm_X7_apply_sX1_j : Cond.selects RX1 yX1_j yX1_j ∈ wsX7_apply := by decide +kernel
set_option maxRecDepth 20000 in
theorem mm_X7_apply_sX1_k : Cond.selects RX1 yX1_k yX1_k ∈ wsX7_apply := by decide +kernel
set_option maxRecDepth 20000 in
theorem mm_X7_apply_sX1_op : Cond.selects RX1 yX1_op yX1_op ∈ wsX7_apply := by decide +kernel
set_option maxRecDepth 20000 in
theorem mm_X7_apply_sX1_unit : Cond.selects RX1 yX1_unit yX1_unit ∈ wsX7_apply := by decide +kernel
set_option maxRecDepth 20000 in
theorem mm_X7_apply_sX6_set : Cond.selects RX6 yX6_set yX6_set ∈ wsX7_apply := by decide +kernel
set_option maxRecDepth 20000 in
theorem mm_X7_apply_sX6_x : Cond.selects RX6 yX6_x yX6_x ∈ wsX7_apply := by decide +kernel
set_option maxRecDepth 20000 in
theorem mm_X7_apply_tJ13_bitCount_95d88 : Cond.static yJ13_bitCount_95d88 ∈ wsX7_apply := by decide +kernel
set_option maxRecDepth 20000 in
theorem mm_X7_apply_tX7_applyAddress : Cond.static yX7_applyAddress ∈ wsX7_apply := by decide +kernel
set_option maxRecDepth 20000 in
theorem mm_X7_apply_tX7_logic : Cond.static yX7_logic ∈ wsX7_apply := by decide +kernel
set_option maxRecDepth 20000 in
theorem mm_X7_apply_tX7_shift : Cond.static yX7_shift ∈ wsX7_apply := by decide +kernel
set_option maxRecDepth 20000 in
theorem mm_X7_apply_tX7_wordSum : Cond.static yX7_wordSum ∈ wsX7_apply := by decide +kernel
set_option maxHeartbeats 4000000 in
set_option maxRecDepth 100000 in
theorem w_X7_apply {p : Program} {l : Launch} {e : Env} {s : State} {m : MethodId} {below : List Frame} {meth : Method} {c : Code} {args : Array Value} (dC : Nat → ClassId) (dI : Nat → Nat → Nat) (cI cJ : ClassId) (hI hG g1 hM m1 hN hR m2 : Nat) (iop : Int32) (ii : Int32) (ij : Int32) (ik : Int32) (ic : Int32) (ip : Int32) (iu : Int32) (gv : Nat → Int64) (mw : Nat → Int64) {w0 : va_W} (C0 : Cx p s m meth c cX7_apply 3 none wsX7_apply RX7 args) (hK : va_K (dC, dI) vwCl [(cI, .int), (cJ, .long)] s) (hZ : Zs false (va_A w0 s.heap.size) s s.heap) (hi : R8 ii) (hj : R8 ij) (hk : R8 ik) {V : (Nat → Int64) × (Nat → Int64)} (hV : (F_X7_apply iop ii ij ik ic iu gv mw ) = V) (ls : Array Slot) (hl : lv_has ls 3 [(0, .ref hI), (1, .ref hG), (2, .ref hM)]) {H : Heap} {locs : List Loc} (hP : va_P (dC, dI) vwCl [(hI, .inr (1, [.int iop, .int ii, .int ij, .int ik, .int ic, .int ip, .int iu, .ref hN, .ref hR])), (hG, .inr (4, [.ref g1])), (g1, .inl (cJ, 24, .inr (.inl gv))), (hM, .inr (2, [.ref m1, .ref m2])), (m1, .inl (cJ, 512, .inr (.inl mw)))] H) (hD : va_D (va_A w0 s.heap.size) [(hI, .inr (1, [.int iop, .int ii, .int ij, .int ik, .int ic, .int ip, .int iu, .ref hN, .ref hR])), (hG, .inr (4, [.ref g1])), (g1, .inl (cJ, 24, .inr (.inl gv))), (hM, .inr (2, [.ref m1, .ref m2])), (m1, .inl (cJ, 512, .inr (.inl mw)))]) (hS : va_S (va_A w0 s.heap.size) s.heap H locs) : W p l e rm_X7_apply s m args below meth c H locs 0 0 (MQ below (QV (dC, dI) [(cI, .int), (cJ, .long)] w0 [(hI, .inr (1, [.int iop, .int ii, .int ij, .int ik, .int ic, .int ip, .int iu, .ref hN, .ref hR])), (hG, .inr (4, [.ref g1])), (g1, .inl (cJ, 24, .inr (.inl V.1))), (hM, .inr (2, [.ref m1, .ref m2])), (m1, .inl (cJ, 512, .inr (.inl V.2)))] s.heap.size) args s 0 0 (va_A w0 s.heap.size)) (F0 m 0 ls []) := by
  obtain ⟨hx, hb, hr, hlk, hml, hown, hts⟩ := id C0
  have hA : ∀ q : Nat, s.heap.size ≤ q → va_A w0 s.heap.size q := fun q h => Or.inr h
  refine lv_aload_n hx hb dX7_apply_0 rfl (lv_at hl 0 rfl) ?_
  refine roVi (As := []) (rest := []) (bytes := cX1_unit) (maxL := 1) (rty := (some .int)) (n := 0) (ci := 1) C0 (c_X1_unit l dC dI cI cJ hI hN hR iop ii ij ik ic ip iu) ⟨rfl, rfl, rfl, by decide +kernel, by decide, by decide⟩ ggX7_apply_X1_unit mm_X7_apply_iX1 mm_X7_apply_l9 mm_X7_apply_nX1_unit mm_X7_apply_sX1_unit rfl rfl (hP.sub (ws' := [(hI, .inr (1, [.int iop, .int ii, .int ij, .int ik, .int ic, .int ip, .int iu, .ref hN, .ref hR]))]) [0] rfl) hK hl.1 rfl rfl (Nat.le_of_ble_eq_true rfl) dX7_apply_1 ⟨Nat.zero_le _, Nat.zero_le _⟩ ?_
  by_cases c1 : (F_X1_unit iu) = (0 : Int32)
  · refine lv_tableIn (tgt := 40) hx hb dX7_apply_4 (by rw [c1]; decide) (by rw [c1]; decide) (by rw [c1]; rfl) (by decide) ?_
    refine lv_aload_n hx hb dX7_apply_40 rfl (lv_at hl 1 rfl) ?_
    refine lv_aload_n hx hb dX7_apply_41 rfl (lv_at hl 0 rfl) ?_
    refine roVi (As := []) (rest := [.ref hG]) (bytes := cX1_i) (maxL := 1) (rty := (some .int)) (n := 0) (ci := 1) C0 (c_X1_i l dC dI cI cJ hI hN hR iop ii ij ik ic ip iu) ⟨rfl, rfl, rfl, by decide +kernel, by decide, by decide⟩ ggX7_apply_X1_i mm_X7_apply_iX1 mm_X7_apply_l15 mm_X7_apply_nX1_i mm_X7_apply_sX1_i rfl rfl (hP.sub (ws' := [(hI, .inr (1, [.int iop, .int ii, .int ij, .int ik, .int ic, .int ip, .int iu, .ref hN, .ref hR]))]) [0] rfl) hK hl.1 rfl rfl (Nat.le_of_ble_eq_true rfl) dX7_apply_42 ⟨Nat.zero_le _, Nat.zero_le _⟩ ?_
    refine lv_aload_n hx hb dX7_apply_45 rfl (lv_at hl 0 rfl) ?_
    refine roVi (As := []) (rest := [.int (F_X1_i ii), .ref hG]) (bytes := cX1_op) (maxL := 1) (rty := (some .int)) (n := 0) (ci := 1) C0 (c_X1_op l dC dI cI cJ hI hN hR iop ii ij ik ic ip iu) ⟨rfl, rfl, rfl, by decide +kernel, by decide, by decide⟩ ggX7_apply_X1_op mm_X7_apply_iX1 mm_X7_apply_l18 mm_X7_apply_nX1_op mm_X7_apply_sX1_op rfl rfl (hP.sub (ws' := [(hI, .inr (1, [.int iop, .int ii, .int ij, .int ik, .int ic, .int ip, .int iu, .ref hN, .ref hR]))]) [0] rfl) hK hl.1 rfl rfl (Nat.le_of_ble_eq_true rfl) dX7_apply_46 ⟨Nat.zero_le _, Nat.zero_le _⟩ ?_
    refine lv_aload_n hx hb dX7_apply_49 rfl (lv_at hl 1 rfl) ?_
    refine lv_aload_n hx hb dX7_apply_50 rfl (lv_at hl 0 rfl) ?_
    refine roVi (As := []) (rest := [.ref hG, .int (F_X1_op iop), .int (F_X1_i ii), .ref hG]) (bytes := cX1_j) (maxL := 1) (rty := (some .int)) (n := 0) (ci := 1) C0 (c_X1_j l dC dI cI cJ hI hN hR iop ii ij ik ic ip iu) ⟨rfl, rfl, rfl, by decide +kernel, by decide, by decide⟩ ggX7_apply_X1_j mm_X7_apply_iX1 mm_X7_apply_l21 mm_X7_apply_nX1_j mm_X7_apply_sX1_j rfl rfl (hP.sub (ws' := [(hI, .inr (1, [.int iop, .int ii, .int ij, .int ik, .int ic, .int ip, .int iu, .ref hN, .ref hR]))]) [0] rfl) hK hl.1 rfl rfl (Nat.le_of_ble_eq_true rfl) dX7_apply_51 ⟨Nat.zero_le _, Nat.zero_le _⟩ ?_
    refine roVl (As := [.int (F_X1_j ij)]) (rest := [.int (F_X1_op iop), .int (F_X1_i ii), .ref hG]) (bytes := cX6_x) (maxL := 2) (rty := (some .long)) (n := 1) (ci := 4) C0 (c_X6_x l dC dI cI cJ hG g1 (F_X1_j ij) gv (R8.x hj)) ⟨rfl, rfl, rfl, by decide +kernel, by decide, by decide⟩ ggX7_apply_X6_x mm_X7_apply_iX6 mm_X7_apply_l24 mm_X7_apply_nX6_x mm_X7_apply_sX6_x rfl rfl (hP.sub (ws' := [(hG, .inr (4, [.ref g1])), (g1, .inl (cJ, 24, .inr (.inl gv)))]) [1, 2] rfl) hK hl.1 rfl rfl (Nat.le_of_ble_eq_true rfl) dX7_apply_54 ⟨Nat.zero_le _, Nat.zero_le _⟩ ?_
    refine lv_aload_n hx hb dX7_apply_57 rfl (lv_at hl 1 rfl) ?_
    refine lv_aload_n hx hb dX7_apply_58 rfl (lv_at hl 0 rfl) ?_
    refine roVi (As := []) (rest := [.ref hG, .long (F_X6_x (F_X1_j ij) gv), .int (F_X1_op iop), .int (F_X1_i ii), .ref hG]) (bytes := cX1_k) (maxL := 1) (rty := (some .int)) (n := 0) (ci := 1) C0 (c_X1_k l dC dI cI cJ hI hN hR iop ii ij ik ic ip iu) ⟨rfl, rfl, rfl, by decide +kernel, by decide, by decide⟩ ggX7_apply_X1_k mm_X7_apply_iX1 mm_X7_apply_l30 mm_X7_apply_nX1_k mm_X7_apply_sX1_k rfl rfl (hP.sub (ws' := [(hI, .inr (1, [.int iop, .int ii, .int ij, .int ik, .int ic, .int ip, .int iu, .ref hN, .ref hR]))]) [0] rfl) hK hl.1 rfl rfl (Nat.le_of_ble_eq_true rfl) dX7_apply_59 ⟨Nat.zero_le _, Nat.zero_le _⟩ ?_
    refine roVl (As := [.int (F_X1_k ik)]) (rest := [.long (F_X6_x (F_X1_j ij) gv), .int (F_X1_op iop), .int (F_X1_i ii), .ref hG]) (bytes := cX6_x) (maxL := 2) (rty := (some .long)) (n := 1) (ci := 4) C0 (c_X6_x l dC dI cI cJ hG g1 (F_X1_k ik) gv (R8.x hk)) ⟨rfl, rfl, rfl, by decide +kernel, by decide, by decide⟩ ggX7_apply_X6_x mm_X7_apply_iX6 mm_X7_apply_l24 mm_X7_apply_nX6_x mm_X7_apply_sX6_x rfl rfl (hP.sub (ws' := [(hG, .inr (4, [.ref g1])), (g1, .inl (cJ, 24, .inr (.inl gv)))]) [1, 2] rfl) hK hl.1 rfl rfl (Nat.le_of_ble_eq_true rfl) dX7_apply_62 ⟨Nat.zero_le _, Nat.zero_le _⟩ ?_
    refine roSl (As := [.int (F_X1_op iop), .long (F_X6_x (F_X1_j ij) gv), .long (F_X6_x (F_X1_k ik) gv)]) (rest := [.int (F_X1_i ii), .ref hG]) (bytes := cX7_logic) (maxL := 5) (rty := (some .long)) (n := 3) C0 (c_X7_logic l dC dI cI cJ (F_X1_op iop) (F_X6_x (F_X1_j ij) gv) (F_X6_x (F_X1_k ik) gv)) ⟨rfl, rfl, rfl, by decide +kernel, by decide, by decide⟩ ggX7_apply_X7_logic mm_X7_apply_iX7 mm_X7_apply_l33 mm_X7_apply_tX7_logic (hP.sub (ws' := []) [] rfl) hK hl.1 rfl rfl (Nat.le_of_ble_eq_true rfl) dX7_apply_65 ⟨Nat.zero_le _, Nat.zero_le _⟩ ?_
    refine wrVv (As := [.int (F_X1_i ii), .long (F_X7_logic (F_X1_op iop) (F_X6_x (F_X1_j ij) gv) (F_X6_x (F_X1_k ik) gv))]) (rest := []) (bytes := cX6_set) (maxL := 4) (rty := none) (n := 2) (ci := 4) C0 (c_X6_set l dC dI cI cJ hG g1 (F_X1_i ii) (F_X7_logic (F_X1_op iop) (F_X6_x (F_X1_j ij) gv) (F_X6_x (F_X1_k ik) gv)) gv (R8.x hi)) ⟨rfl, rfl, rfl, by decide +kernel, by decide, by decide⟩ ggX7_apply_X6_set mm_X7_apply_iX6 mm_X7_apply_l39 mm_X7_apply_nX6_set mm_X7_apply_sX6_set rfl rfl hP hD hK hS hA (Zs.no _ _ _) [1, 2] [0, 3, 4] [0, 3, 4, 1, 2] [(hI, .inr (1, [.int iop, .int ii, .int ij, .int ik, .int ic, .int ip, .int iu, .ref hN, .ref hR])), (hM, .inr (2, [.ref m1, .ref m2])), (m1, .inl (cJ, 512, .inr (.inl mw)))] [(hI, .inr (1, [.int iop, .int ii, .int ij, .int ik, .int ic, .int ip, .int iu, .ref hN, .ref hR])), (hG, .inr (4, [.ref g1])), (g1, .inl (cJ, 24, .inr (.inl (F_X6_set (F_X1_i ii) (F_X7_logic (F_X1_op iop) (F_X6_x (F_X1_j ij) gv) (F_X6_x (F_X1_k ik) gv)) gv)))), (hM, .inr (2, [.ref m1, .ref m2])), (m1, .inl (cJ, 512, .inr (.inl mw)))] rfl (by decide) (hP.sub (ws' := [(hG, .inr (4, [.ref g1])), (g1, .inl (cJ, 24, .inr (.inl gv)))]) [1, 2] rfl) rfl (by decide) (by decide) (by decide) rfl hl.1 rfl rfl (Nat.le_of_ble_eq_true rfl) dX7_apply_68 ⟨Nat.zero_le _, Nat.zero_le _⟩ (fun H locs hP hD hS => ?_)
    refine lv_goto (tgt := 156) hx hb dX7_apply_71 (by decide) ?_
    have e9 : (F_X7_apply iop ii ij ik ic iu gv mw ) = ((F_X6_set (F_X1_i ii) (F_X7_logic (F_X1_op iop) (F_X6_x (F_X1_j ij) gv) (F_X6_x (F_X1_k ik) gv)) gv), mw) := by rw [F_X7_apply, if_pos c1]
    rw [e9] at hV
    subst hV
    exact wrRetV C0 hK hP hD hS dX7_apply_156
  by_cases c2 : (F_X1_unit iu) = (1 : Int32)
  · refine lv_tableIn (tgt := 74) hx hb dX7_apply_4 (by rw [c2]; decide) (by rw [c2]; decide) (by rw [c2]; rfl) (by decide) ?_
    refine lv_aload_n hx hb dX7_apply_74 rfl (lv_at hl 1 rfl) ?_
    refine lv_aload_n hx hb dX7_apply_75 rfl (lv_at hl 0 rfl) ?_
    refine roVi (As := []) (rest := [.ref hG]) (bytes := cX1_i) (maxL := 1) (rty := (some .int)) (n := 0) (ci := 1) C0 (c_X1_i l dC dI cI cJ hI hN hR iop ii ij ik ic ip iu) ⟨rfl, rfl, rfl, by decide +kernel, by decide, by decide⟩ ggX7_apply_X1_i mm_X7_apply_iX1 mm_X7_apply_l15 mm_X7_apply_nX1_i mm_X7_apply_sX1_i rfl rfl (hP.sub (ws' := [(hI, .inr (1, [.int iop, .int ii, .int ij, .int ik, .int ic, .int ip, .int iu, .ref hN, .ref hR]))]) [0] rfl) hK hl.1 rfl rfl (Nat.le_of_ble_eq_true rfl) dX7_apply_76 ⟨Nat.zero_le _, Nat.zero_le _⟩ ?_
    refine lv_aload_n hx hb dX7_apply_79 rfl (lv_at hl 0 rfl) ?_
    refine lv_aload_n hx hb dX7_apply_80 rfl (lv_at hl 1 rfl) ?_
    refine roSl (As := [.ref hI, .ref hG]) (rest := [.int (F_X1_i ii), .ref hG]) (bytes := cX7_shift) (maxL := 2) (rty := (some .long)) (n := 2) C0 (c_X7_shift l dC dI cI cJ hI hG g1 hN hR iop ii ij ik ic ip iu gv hi hj hk) ⟨rfl, rfl, rfl, by decide +kernel, by decide, by decide⟩ ggX7_apply_X7_shift mm_X7_apply_iX7 mm_X7_apply_l43 mm_X7_apply_tX7_shift (hP.sub (ws' := [(hI, .inr (1, [.int iop, .int ii, .int ij, .int ik, .int ic, .int ip, .int iu, .ref hN, .ref hR])), (hG, .inr (4, [.ref g1])), (g1, .inl (cJ, 24, .inr (.inl gv)))]) [0, 1, 2] rfl) hK hl.1 rfl rfl (Nat.le_of_ble_eq_true rfl) dX7_apply_81 ⟨Nat.zero_le _, Nat.zero_le _⟩ ?_
    refine wrVv (As := [.int (F_X1_i ii), .long (F_X7_shift iop ii ij ik gv)]) (rest := []) (bytes := cX6_set) (maxL := 4) (rty := none) (n := 2) (ci := 4) C0 (c_X6_set l dC dI cI cJ hG g1 (F_X1_i ii) (F_X7_shift iop ii ij ik gv) gv (R8.x hi)) ⟨rfl, rfl, rfl, by decide +kernel, by decide, by decide⟩ ggX7_apply_X6_set mm_X7_apply_iX6 mm_X7_apply_l39 mm_X7_apply_nX6_set mm_X7_apply_sX6_set rfl rfl hP hD hK hS hA (Zs.no _ _ _) [1, 2] [0, 3, 4] [0, 3, 4, 1, 2] [(hI, .inr (1, [.int iop, .int ii, .int ij, .int ik, .int ic, .int ip, .int iu, .ref hN, .ref hR])), (hM, .inr (2, [.ref m1, .ref m2])), (m1, .inl (cJ, 512, .inr (.inl mw)))] [(hI, .inr (1, [.int iop, .int ii, .int ij, .int ik, .int ic, .int ip, .int iu, .ref hN, .ref hR])), (hG, .inr (4, [.ref g1])), (g1, .inl (cJ, 24, .inr (.inl (F_X6_set (F_X1_i ii) (F_X7_shift iop ii ij ik gv) gv)))), (hM, .inr (2, [.ref m1, .ref m2])), (m1, .inl (cJ, 512, .inr (.inl mw)))] rfl (by decide) (hP.sub (ws' := [(hG, .inr (4, [.ref g1])), (g1, .inl (cJ, 24, .inr (.inl gv)))]) [1, 2] rfl) rfl (by decide) (by decide) (by decide) rfl hl.1 rfl rfl (Nat.le_of_ble_eq_true rfl) dX7_apply_84 ⟨Nat.zero_le _, Nat.zero_le _⟩ (fun H locs hP hD hS => ?_)
    refine lv_goto (tgt := 156) hx hb dX7_apply_87 (by decide) ?_
    have e9 : (F_X7_apply iop ii ij ik ic iu gv mw ) = ((F_X6_set (F_X1_i ii) (F_X7_shift iop ii ij ik gv) gv), mw) := by rw [F_X7_apply, if_neg c1, if_pos c2]
    rw [e9] at hV
    subst hV
    exact wrRetV C0 hK hP hD hS dX7_apply_156
  by_cases c3 : (F_X1_unit iu) = (2 : Int32)
  · refine lv_tableIn (tgt := 90) hx hb dX7_apply_4 (by rw [c3]; decide) (by rw [c3]; decide) (by rw [c3]; rfl) (by decide) ?_
    refine lv_aload_n hx hb dX7_apply_90 rfl (lv_at hl 1 rfl) ?_
    refine lv_aload_n hx hb dX7_apply_91 rfl (lv_at hl 0 rfl) ?_
    refine roVi (As := []) (rest := [.ref hG]) (bytes := cX1_i) (maxL := 1) (rty := (some .int)) (n := 0) (ci := 1) C0 (c_X1_i l dC dI cI cJ hI hN hR iop ii ij ik ic ip iu) ⟨rfl, rfl, rfl, by decide +kernel, by decide, by decide⟩ ggX7_apply_X1_i mm_X7_apply_iX1 mm_X7_apply_l15 mm_X7_apply_nX1_i mm_X7_apply_sX1_i rfl rfl (hP.sub (ws' := [(hI, .inr (1, [.int iop, .int ii, .int ij, .int ik, .int ic, .int ip, .int iu, .ref hN, .ref hR]))]) [0] rfl) hK hl.1 rfl rfl (Nat.le_of_ble_eq_true rfl) dX7_apply_92 ⟨Nat.zero_le _, Nat.zero_le _⟩ ?_
    refine lv_aload_n hx hb dX7_apply_95 rfl (lv_at hl 0 rfl) ?_
    refine roVi (As := []) (rest := [.int (F_X1_i ii), .ref hG]) (bytes := cX1_op) (maxL := 1) (rty := (some .int)) (n := 0) (ci := 1) C0 (c_X1_op l dC dI cI cJ hI hN hR iop ii ij ik ic ip iu) ⟨rfl, rfl, rfl, by decide +kernel, by decide, by decide⟩ ggX7_apply_X1_op mm_X7_apply_iX1 mm_X7_apply_l18 mm_X7_apply_nX1_op mm_X7_apply_sX1_op rfl rfl (hP.sub (ws' := [(hI, .inr (1, [.int iop, .int ii, .int ij, .int ik, .int ic, .int ip, .int iu, .ref hN, .ref hR]))]) [0] rfl) hK hl.1 rfl rfl (Nat.le_of_ble_eq_true rfl) dX7_apply_96 ⟨Nat.zero_le _, Nat.zero_le _⟩ ?_
    refine lv_aload_n hx hb dX7_apply_99 rfl (lv_at hl 1 rfl) ?_
    refine lv_aload_n hx hb dX7_apply_100 rfl (lv_at hl 0 rfl) ?_
    refine roVi (As := []) (rest := [.ref hG, .int (F_X1_op iop), .int (F_X1_i ii), .ref hG]) (bytes := cX1_j) (maxL := 1) (rty := (some .int)) (n := 0) (ci := 1) C0 (c_X1_j l dC dI cI cJ hI hN hR iop ii ij ik ic ip iu) ⟨rfl, rfl, rfl, by decide +kernel, by decide, by decide⟩ ggX7_apply_X1_j mm_X7_apply_iX1 mm_X7_apply_l21 mm_X7_apply_nX1_j mm_X7_apply_sX1_j rfl rfl (hP.sub (ws' := [(hI, .inr (1, [.int iop, .int ii, .int ij, .int ik, .int ic, .int ip, .int iu, .ref hN, .ref hR]))]) [0] rfl) hK hl.1 rfl rfl (Nat.le_of_ble_eq_true rfl) dX7_apply_101 ⟨Nat.zero_le _, Nat.zero_le _⟩ ?_
    refine roVl (As := [.int (F_X1_j ij)]) (rest := [.int (F_X1_op iop), .int (F_X1_i ii), .ref hG]) (bytes := cX6_x) (maxL := 2) (rty := (some .long)) (n := 1) (ci := 4) C0 (c_X6_x l dC dI cI cJ hG g1 (F_X1_j ij) gv (R8.x hj)) ⟨rfl, rfl, rfl, by decide +kernel, by decide, by decide⟩ ggX7_apply_X6_x mm_X7_apply_iX6 mm_X7_apply_l24 mm_X7_apply_nX6_x mm_X7_apply_sX6_x rfl rfl (hP.sub (ws' := [(hG, .inr (4, [.ref g1])), (g1, .inl (cJ, 24, .inr (.inl gv)))]) [1, 2] rfl) hK hl.1 rfl rfl (Nat.le_of_ble_eq_true rfl) dX7_apply_104 ⟨Nat.zero_le _, Nat.zero_le _⟩ ?_
    refine lv_aload_n hx hb dX7_apply_107 rfl (lv_at hl 1 rfl) ?_
    refine lv_aload_n hx hb dX7_apply_108 rfl (lv_at hl 0 rfl) ?_
    refine roVi (As := []) (rest := [.ref hG, .long (F_X6_x (F_X1_j ij) gv), .int (F_X1_op iop), .int (F_X1_i ii), .ref hG]) (bytes := cX1_k) (maxL := 1) (rty := (some .int)) (n := 0) (ci := 1) C0 (c_X1_k l dC dI cI cJ hI hN hR iop ii ij ik ic ip iu) ⟨rfl, rfl, rfl, by decide +kernel, by decide, by decide⟩ ggX7_apply_X1_k mm_X7_apply_iX1 mm_X7_apply_l30 mm_X7_apply_nX1_k mm_X7_apply_sX1_k rfl rfl (hP.sub (ws' := [(hI, .inr (1, [.int iop, .int ii, .int ij, .int ik, .int ic, .int ip, .int iu, .ref hN, .ref hR]))]) [0] rfl) hK hl.1 rfl rfl (Nat.le_of_ble_eq_true rfl) dX7_apply_109 ⟨Nat.zero_le _, Nat.zero_le _⟩ ?_
    refine roVl (As := [.int (F_X1_k ik)]) (rest := [.long (F_X6_x (F_X1_j ij) gv), .int (F_X1_op iop), .int (F_X1_i ii), .ref hG]) (bytes := cX6_x) (maxL := 2) (rty := (some .long)) (n := 1) (ci := 4) C0 (c_X6_x l dC dI cI cJ hG g1 (F_X1_k ik) gv (R8.x hk)) ⟨rfl, rfl, rfl, by decide +kernel, by decide, by decide⟩ ggX7_apply_X6_x mm_X7_apply_iX6 mm_X7_apply_l24 mm_X7_apply_nX6_x mm_X7_apply_sX6_x rfl rfl (hP.sub (ws' := [(hG, .inr (4, [.ref g1])), (g1, .inl (cJ, 24, .inr (.inl gv)))]) [1, 2] rfl) hK hl.1 rfl rfl (Nat.le_of_ble_eq_true rfl) dX7_apply_112 ⟨Nat.zero_le _, Nat.zero_le _⟩ ?_
    refine roSl (As := [.int (F_X1_op iop), .long (F_X6_x (F_X1_j ij) gv), .long (F_X6_x (F_X1_k ik) gv)]) (rest := [.int (F_X1_i ii), .ref hG]) (bytes := cX7_wordSum) (maxL := 5) (rty := (some .long)) (n := 3) C0 (c_X7_wordSum l dC dI cI cJ (F_X1_op iop) (F_X6_x (F_X1_j ij) gv) (F_X6_x (F_X1_k ik) gv)) ⟨rfl, rfl, rfl, by decide +kernel, by decide, by decide⟩ ggX7_apply_X7_wordSum mm_X7_apply_iX7 mm_X7_apply_l47 mm_X7_apply_tX7_wordSum (hP.sub (ws' := []) [] rfl) hK hl.1 rfl rfl (Nat.le_of_ble_eq_true rfl) dX7_apply_115 ⟨Nat.zero_le _, Nat.zero_le _⟩ ?_
    refine wrVv (As := [.int (F_X1_i ii), .long (F_X7_wordSum (F_X1_op iop) (F_X6_x (F_X1_j ij) gv) (F_X6_x (F_X1_k ik) gv))]) (rest := []) (bytes := cX6_set) (maxL := 4) (rty := none) (n := 2) (ci := 4) C0 (c_X6_set l dC dI cI cJ hG g1 (F_X1_i ii) (F_X7_wordSum (F_X1_op iop) (F_X6_x (F_X1_j ij) gv) (F_X6_x (F_X1_k ik) gv)) gv (R8.x hi)) ⟨rfl, rfl, rfl, by decide +kernel, by decide, by decide⟩ ggX7_apply_X6_set mm_X7_apply_iX6 mm_X7_apply_l39 mm_X7_apply_nX6_set mm_X7_apply_sX6_set rfl rfl hP hD hK hS hA (Zs.no _ _ _) [1, 2] [0, 3, 4] [0, 3, 4, 1, 2] [(hI, .inr (1, [.int iop, .int ii, .int ij, .int ik, .int ic, .int ip, .int iu, .ref hN, .ref hR])), (hM, .inr (2, [.ref m1, .ref m2])), (m1, .inl (cJ, 512, .inr (.inl mw)))] [(hI, .inr (1, [.int iop, .int ii, .int ij, .int ik, .int ic, .int ip, .int iu, .ref hN, .ref hR])), (hG, .inr (4, [.ref g1])), (g1, .inl (cJ, 24, .inr (.inl (F_X6_set (F_X1_i ii) (F_X7_wordSum (F_X1_op iop) (F_X6_x (F_X1_j ij) gv) (F_X6_x (F_X1_k ik) gv)) gv)))), (hM, .inr (2, [.ref m1, .ref m2])), (m1, .inl (cJ, 512, .inr (.inl mw)))] rfl (by decide) (hP.sub (ws' := [(hG, .inr (4, [.ref g1])), (g1, .inl (cJ, 24, .inr (.inl gv)))]) [1, 2] rfl) rfl (by decide) (by decide) (by decide) rfl hl.1 rfl rfl (Nat.le_of_ble_eq_true rfl) dX7_apply_118 ⟨Nat.zero_le _, Nat.zero_le _⟩ (fun H locs hP hD hS => ?_)
    refine lv_goto (tgt := 156) hx hb dX7_apply_121 (by decide) ?_
    have e9 : (F_X7_apply iop ii ij ik ic iu gv mw ) = ((F_X6_set (F_X1_i ii) (F_X7_wordSum (F_X1_op iop) (F_X6_x (F_X1_j ij) gv) (F_X6_x (F_X1_k ik) gv)) gv), mw) := by rw [F_X7_apply, if_neg c1, if_neg c2, if_pos c3]
    rw [e9] at hV
    subst hV
    exact wrRetV C0 hK hP hD hS dX7_apply_156
  by_cases c4 : (F_X1_unit iu) = (3 : Int32)
  · refine lv_tableIn (tgt := 124) hx hb dX7_apply_4 (by rw [c4]; decide) (by rw [c4]; decide) (by rw [c4]; rfl) (by decide) ?_
    refine lv_aload_n hx hb dX7_apply_124 rfl (lv_at hl 1 rfl) ?_
    refine lv_aload_n hx hb dX7_apply_125 rfl (lv_at hl 0 rfl) ?_
    refine roVi (As := []) (rest := [.ref hG]) (bytes := cX1_i) (maxL := 1) (rty := (some .int)) (n := 0) (ci := 1) C0 (c_X1_i l dC dI cI cJ hI hN hR iop ii ij ik ic ip iu) ⟨rfl, rfl, rfl, by decide +kernel, by decide, by decide⟩ ggX7_apply_X1_i mm_X7_apply_iX1 mm_X7_apply_l15 mm_X7_apply_nX1_i mm_X7_apply_sX1_i rfl rfl (hP.sub (ws' := [(hI, .inr (1, [.int iop, .int ii, .int ij, .int ik, .int ic, .int ip, .int iu, .ref hN, .ref hR]))]) [0] rfl) hK hl.1 rfl rfl (Nat.le_of_ble_eq_true rfl) dX7_apply_126 ⟨Nat.zero_le _, Nat.zero_le _⟩ ?_
    refine lv_aload_n hx hb dX7_apply_129 rfl (lv_at hl 1 rfl) ?_
    refine lv_aload_n hx hb dX7_apply_130 rfl (lv_at hl 0 rfl) ?_
    refine roVi (As := []) (rest := [.ref hG, .int (F_X1_i ii), .ref hG]) (bytes := cX1_k) (maxL := 1) (rty := (some .int)) (n := 0) (ci := 1) C0 (c_X1_k l dC dI cI cJ hI hN hR iop ii ij ik ic ip iu) ⟨rfl, rfl, rfl, by decide +kernel, by decide, by decide⟩ ggX7_apply_X1_k mm_X7_apply_iX1 mm_X7_apply_l30 mm_X7_apply_nX1_k mm_X7_apply_sX1_k rfl rfl (hP.sub (ws' := [(hI, .inr (1, [.int iop, .int ii, .int ij, .int ik, .int ic, .int ip, .int iu, .ref hN, .ref hR]))]) [0] rfl) hK hl.1 rfl rfl (Nat.le_of_ble_eq_true rfl) dX7_apply_131 ⟨Nat.zero_le _, Nat.zero_le _⟩ ?_
    refine roVl (As := [.int (F_X1_k ik)]) (rest := [.int (F_X1_i ii), .ref hG]) (bytes := cX6_x) (maxL := 2) (rty := (some .long)) (n := 1) (ci := 4) C0 (c_X6_x l dC dI cI cJ hG g1 (F_X1_k ik) gv (R8.x hk)) ⟨rfl, rfl, rfl, by decide +kernel, by decide, by decide⟩ ggX7_apply_X6_x mm_X7_apply_iX6 mm_X7_apply_l24 mm_X7_apply_nX6_x mm_X7_apply_sX6_x rfl rfl (hP.sub (ws' := [(hG, .inr (4, [.ref g1])), (g1, .inl (cJ, 24, .inr (.inl gv)))]) [1, 2] rfl) hK hl.1 rfl rfl (Nat.le_of_ble_eq_true rfl) dX7_apply_134 ⟨Nat.zero_le _, Nat.zero_le _⟩ ?_
    refine roSi (As := [.long (F_X6_x (F_X1_k ik) gv)]) (rest := [.int (F_X1_i ii), .ref hG]) (bytes := cJ13_bitCount_95d88) (maxL := 2) (rty := (some .int)) (n := 1) C0 (c_J13_bitCount_95d88 l dC dI cI cJ (F_X6_x (F_X1_k ik) gv)) ⟨rfl, rfl, rfl, by decide +kernel, by decide, by decide⟩ ggX7_apply_J13_bitCount_95d88 mm_X7_apply_iJ13 mm_X7_apply_l50 mm_X7_apply_tJ13_bitCount_95d88 (hP.sub (ws' := []) [] rfl) hK hl.1 rfl rfl (Nat.le_of_ble_eq_true rfl) dX7_apply_137 ⟨Nat.zero_le _, Nat.zero_le _⟩ ?_
    refine lv_i2l hx hb dX7_apply_140 rfl ?_
    refine wrVv (As := [.int (F_X1_i ii), .long (F_J13_bitCount_95d88 (F_X6_x (F_X1_k ik) gv)).toInt64]) (rest := []) (bytes := cX6_set) (maxL := 4) (rty := none) (n := 2) (ci := 4) C0 (c_X6_set l dC dI cI cJ hG g1 (F_X1_i ii) ((F_J13_bitCount_95d88 (F_X6_x (F_X1_k ik) gv)).toInt64) gv (R8.x hi)) ⟨rfl, rfl, rfl, by decide +kernel, by decide, by decide⟩ ggX7_apply_X6_set mm_X7_apply_iX6 mm_X7_apply_l39 mm_X7_apply_nX6_set mm_X7_apply_sX6_set rfl rfl hP hD hK hS hA (Zs.no _ _ _) [1, 2] [0, 3, 4] [0, 3, 4, 1, 2] [(hI, .inr (1, [.int iop, .int ii, .int ij, .int ik, .int ic, .int ip, .int iu, .ref hN, .ref hR])), (hM, .inr (2, [.ref m1, .ref m2])), (m1, .inl (cJ, 512, .inr (.inl mw)))] [(hI, .inr (1, [.int iop, .int ii, .int ij, .int ik, .int ic, .int ip, .int iu, .ref hN, .ref hR])), (hG, .inr (4, [.ref g1])), (g1, .inl (cJ, 24, .inr (.inl (F_X6_set (F_X1_i ii) ((F_J13_bitCount_95d88 (F_X6_x (F_X1_k ik) gv)).toInt64) gv)))), (hM, .inr (2, [.ref m1, .ref m2])), (m1, .inl (cJ, 512, .inr (.inl mw)))] rfl (by decide) (hP.sub (ws' := [(hG, .inr (4, [.ref g1])), (g1, .inl (cJ, 24, .inr (.inl gv)))]) [1, 2] rfl) rfl (by decide) (by decide) (by decide) rfl hl.1 rfl rfl (Nat.le_of_ble_eq_true rfl) dX7_apply_141 ⟨Nat.zero_le _, Nat.zero_le _⟩ (fun H locs hP hD hS => ?_)
    refine lv_goto (tgt := 156) hx hb dX7_apply_144 (by decide) ?_
    have e9 : (F_X7_apply iop ii ij ik ic iu gv mw ) = ((F_X6_set (F_X1_i ii) ((F_J13_bitCount_95d88 (F_X6_x (F_X1_k ik) gv)).toInt64) gv), mw) := by rw [F_X7_apply, if_neg c1, if_neg c2, if_neg c3, if_pos c4]
    rw [e9] at hV
    subst hV
    exact wrRetV C0 hK hP hD hS dX7_apply_156
  by_cases c5 : (F_X1_unit iu) = (4 : Int32)
  · refine lv_tableIn (tgt := 147) hx hb dX7_apply_4 (by rw [c5]; decide) (by rw [c5]; decide) (by rw [c5]; rfl) (by decide) ?_
    refine lv_aload_n hx hb dX7_apply_147 rfl (lv_at hl 0 rfl) ?_
    refine lv_aload_n hx hb dX7_apply_148 rfl (lv_at hl 1 rfl) ?_
    refine lv_aload_n hx hb dX7_apply_149 rfl (lv_at hl 2 rfl) ?_
    refine wrSv (As := [.ref hI, .ref hG, .ref hM]) (rest := []) (bytes := cX7_applyAddress) (maxL := 6) (rty := none) (n := 3) C0 (c_X7_applyAddress l dC dI cI cJ hI hG g1 hM m1 hN hR m2 iop ii ij ik ic ip iu gv mw hi hj hk) ⟨rfl, rfl, rfl, by decide +kernel, by decide, by decide⟩ ggX7_apply_X7_applyAddress mm_X7_apply_iX7 mm_X7_apply_l56 mm_X7_apply_tX7_applyAddress hP hD hK hS hA (Zs.no _ _ _) [0, 1, 2, 3, 4] [] [0, 1, 2, 3, 4] [] [(hI, .inr (1, [.int iop, .int ii, .int ij, .int ik, .int ic, .int ip, .int iu, .ref hN, .ref hR])), (hG, .inr (4, [.ref g1])), (g1, .inl (cJ, 24, .inr (.inl ((F_X7_applyAddress iop ii ij ik ic gv mw).1)))), (hM, .inr (2, [.ref m1, .ref m2])), (m1, .inl (cJ, 512, .inr (.inl ((F_X7_applyAddress iop ii ij ik ic gv mw).2))))] rfl (by decide) (hP.sub (ws' := [(hI, .inr (1, [.int iop, .int ii, .int ij, .int ik, .int ic, .int ip, .int iu, .ref hN, .ref hR])), (hG, .inr (4, [.ref g1])), (g1, .inl (cJ, 24, .inr (.inl gv))), (hM, .inr (2, [.ref m1, .ref m2])), (m1, .inl (cJ, 512, .inr (.inl mw)))]) [0, 1, 2, 3, 4] rfl) rfl (by decide) (by decide) (by decide) rfl hl.1 rfl rfl (Nat.le_of_ble_eq_true rfl) dX7_apply_150 ⟨Nat.zero_le _, Nat.zero_le _⟩ (fun H locs hP hD hS => ?_)
    refine lv_goto (tgt := 156) hx hb dX7_apply_153 (by decide) ?_
    have e9 : (F_X7_apply iop ii ij ik ic iu gv mw ) = (((F_X7_applyAddress iop ii ij ik ic gv mw).1), ((F_X7_applyAddress iop ii ij ik ic gv mw).2)) := by rw [F_X7_apply, if_neg c1, if_neg c2, if_neg c3, if_neg c4, if_pos c5]
    rw [e9] at hV
    subst hV
    exact wrRetV C0 hK hP hD hS dX7_apply_156
  refine lv_tableOut (tgt := 156) hx hb dX7_apply_4 (by have q0 := lv_neT (a := 0) c1 (by decide); have q1 := lv_neT (a := 1) c2 (by decide); have q2 := lv_neT (a := 2) c3 (by decide); have q3 := lv_neT (a := 3) c4 (by decide); have q4 := lv_neT (a := 4) c5 (by decide); omega) (by decide) ?_
  have e9 : (F_X7_apply iop ii ij ik ic iu gv mw ) = (gv, mw) := by rw [F_X7_apply, if_neg c1, if_neg c2, if_neg c3, if_neg c4, if_neg c5]
  rw [e9] at hV
  subst hV
  exact wrRetV C0 hK hP hD hS dX7_apply_156
theorem c_X7_apply (l : Launch) (dC : Nat → ClassId) (dI : Nat → Nat → Nat) (cI cJ : ClassId) (hI hG g1 hM m1 hN hR m2 : Nat) (iop : Int32) (ii : Int32) (ij : Int32) (ik : Int32) (ic : Int32) (ip : Int32) (iu : Int32) (gv : Nat → Int64) (mw : Nat → Int64) (hi : R8 ii) (hj : R8 ij) (hk : R8 ik) : WrV false l yX7_apply wsX7_apply rm_X7_apply (dC, dI) [(cI, .int), (cJ, .long)] [(hI, .inr (1, [.int iop, .int ii, .int ij, .int ik, .int ic, .int ip, .int iu, .ref hN, .ref hR])), (hG, .inr (4, [.ref g1])), (g1, .inl (cJ, 24, .inr (.inl gv))), (hM, .inr (2, [.ref m1, .ref m2])), (m1, .inl (cJ, 512, .inr (.inl mw)))] [(hI, .inr (1, [.int iop, .int ii, .int ij, .int ik, .int ic, .int ip, .int iu, .ref hN, .ref hR])), (hG, .inr (4, [.ref g1])), (g1, .inl (cJ, 24, .inr (.inl ((F_X7_apply iop ii ij ik ic iu gv mw ).1)))), (hM, .inr (2, [.ref m1, .ref m2])), (m1, .inl (cJ, 512, .inr (.inl ((F_X7_apply iop ii ij ik ic iu gv mw ).2))))] [.ref hI, .ref hG, .ref hM] := by
  refine WrV.mk (cc := cX7_apply) (nL := 3) (ret := none) [(0, .ref hI), (1, .ref hG), (2, .ref hM)] (by decide) rfl (Nat.le_of_ble_eq_true rfl) rfl ?_
  intro p e s m below meth c C0 hP hK hD hS hZ ls hl
  exact w_X7_apply dC dI cI cJ hI hG g1 hM m1 hN hR m2 iop ii ij ik ic ip iu gv mw C0 hK hZ hi hj hk rfl ls hl hP hD hS
