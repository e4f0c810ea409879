abbrev rm_X1_init : Room := { frames := 2, cells := 4, slots := 10, locals := 32 }
set_option maxRecDepth 20000 in
theorem mi_X1_init_X1 : ∀ w ∈ wsX10, w ∈ wsX1_init := by decide +kernel
set_option maxRecDepth 20000 in
theorem mi_X1_init_X5 : ∀ w ∈ wsX50, w ∈ wsX1_init := by decide +kernel
set_option maxRecDepth 20000 in
theorem mm_X1_init_c11 : Cond.classLink RX1 11 RX5 ∈ wsX1_init := by decide +kernel
set_option maxRecDepth 20000 in
theorem mm_X1_init_co : Cond.code objectInit ⟨#[0xb1]⟩ 1 none ∈ wsX1_init := by decide +kernel
set_option maxRecDepth 20000 in
theorem mm_X1_init_f14 : Cond.fieldLink RX1 14 "ScoreboardCore$Instruction" "needs" "LScoreboardCore$RegisterList;" ∈ wsX1_init := by decide +kernel
set_option maxRecDepth 20000 in
theorem mm_X1_init_f18 : Cond.fieldLink RX1 18 "ScoreboardCore$Instruction" "results" "LScoreboardCore$RegisterList;" ∈ wsX1_init := by decide +kernel
set_option maxRecDepth 20000 in
theorem mm_X1_init_iX5 : Cond.initialized RX5 ∈ wsX1_init := by decide +kernel
set_option maxRecDepth 20000 in
theorem mm_X1_init_inX5 : Cond.instantiable RX5 2 ∈ wsX1_init := by decide +kernel
set_option maxRecDepth 20000 in
theorem mm_X1_init_io : Cond.instanceMethod objectInit ∈ wsX1_init := by decide +kernel
set_option maxRecDepth 20000 in
theorem mm_X1_init_l5 : Cond.methodLink RX1 5 objectInit ∈ wsX1_init := by decide +kernel
set_option maxRecDepth 20000 in
theorem mm_X1_init_nX5_init : Cond.instanceMethod yX5_init ∈ wsX1_init := by decide +kernel
set_option maxHeartbeats 4000000 in
set_option maxRecDepth 100000 in
theorem c_X1_init (l : Launch) (dC : Nat → ClassId) (dI : Nat → Nat → Nat) (cI cJ : ClassId) (hI : Nat) (sz : Nat) : Met l yX1_init wsX1_init rm_X1_init (Wc_P [(RX1, 13, yX5_init)] (dC, dI) [(cI, .int), (cJ, .long)] [(hI, .inr (1, [.int 0, .int 0, .int 0, .int 0, .int 0, .int 0, .int 0, .null, .null]))] [.ref hI] sz) (va_Qv (fun (u : va_W) => ∃ hN : Nat, ∃ n1 : Nat, ∃ hR : Nat, ∃ r1 : Nat, u = [(hI, .inr (1, [.int 0, .int 0, .int 0, .int 0, .int 0, .int 0, .int 0, .ref hN, .ref hR])), (hN, .inr (3, [.ref n1, .int 0])), (n1, .inl (cI, 3, .inl (fun _ => 0))), (hR, .inr (3, [.ref r1, .int 0])), (r1, .inl (cI, 3, .inl (fun _ => 0)))]) (fun u t => va_P (dC, dI) vwCl u t.heap ∧ va_K (dC, dI) vwCl [(cI, .int), (cJ, .long)] t ∧ va_D (va_A [(hI, .inr (1, [.int 0, .int 0, .int 0, .int 0, .int 0, .int 0, .int 0, .null, .null]))] sz) u) (va_A [(hI, .inr (1, [.int 0, .int 0, .int 0, .int 0, .int 0, .int 0, .int 0, .null, .null]))] sz)) 4 10 (va_A [(hI, .inr (1, [.int 0, .int 0, .int 0, .int 0, .int 0, .int 0, .int 0, .null, .null]))] sz) := by
  refine Met.ofW (cc := cX1_init) (maxL := 1) (ret := none) (by decide) rfl ?_
  intro p e s m args below meth c s₁ B hml hv
  obtain ⟨rfl, rfl, hP, hK, hD0, hNs⟩ := hv
  have hin : meth.name = "<init>" := (name_of_methodNamed B.named B.method).1
  have C0 : Cx p s m meth c cX1_init 1 none wsX1_init RX1 _ := Cx.ofB (y := yX1_init) rfl B hml
  obtain ⟨hx, hb, hr, hlk, hml, hown, hts⟩ := C0
  have hD := hD0.self (sz := s.heap.size)
  generalize hw0 : ([(hI, .inr (1, [.int 0, .int 0, .int 0, .int 0, .int 0, .int 0, .int 0, .null, .null]))] : va_W) = w0 at hD ⊢
  have hA : ∀ q : Nat, s.heap.size ≤ q → va_A w0 s.heap.size q := fun q h => Or.inr h
  have hS : va_S (va_A w0 s.heap.size) s.heap s.heap [] := va_S.rf
  refine ent_W (As := [.ref hI]) (Nat.le_of_ble_eq_true rfl) (lv := [(0, .ref hI)]) rfl (fun ls hl => ?_)
  have hD : va_D (va_A w0 s.heap.size) [(hI, .inr (1, [.int 0, .int 0, .int 0, .int 0, .int 0, .int 0, .int 0, .null, .null]))] := by rw [hw0]; exact hD
  clear hw0
  refine lv_aload_n hx hb dX1_init_0 rfl (lv_at hl 0 rfl) ?_
  refine W.objInit hx hb hown (hts (.methodLink RX1 5 objectInit) mm_X1_init_l5) (hts (.instanceMethod objectInit) mm_X1_init_io) (hts (.code objectInit ⟨#[0xb1]⟩ 1 none) mm_X1_init_co) rfl (by rw [hml]; exact hl.1) rfl dX1_init_1 (Nat.le_of_ble_eq_true rfl) (Nat.le_of_ble_eq_true rfl) ?_
  refine W.eq (g2 := F0 m 4 ls []) rfl ?_
  refine lv_aload_n hx hb dX1_init_4 rfl (lv_at hl 0 rfl) ?_
  refine va_new (ci := 3) (fs := [.null, .int 0]) (C := RX5) (T := TX5) (N := 2) hx hb hts mi_X1_init_X5 tyX5 tyX5_ok hown (hts (.classLink RX1 11 RX5) mm_X1_init_c11) (hts (.instantiable RX5 2) mm_X1_init_inX5) (hts (.initialized RX5) mm_X1_init_iX5) hK hP hD hS hA rfl (fun j hj => by rcases (show j = 0 ∨ j = 1 by omega) with rfl | rfl <;> rfl) (Nat.le_of_ble_eq_true rfl) (Nat.le_of_ble_eq_true rfl) dX1_init_5 (fun hN H hP hD hS => ?_)
  have hP : va_P (dC, dI) vwCl [(hI, .inr (1, [.int 0, .int 0, .int 0, .int 0, .int 0, .int 0, .int 0, .null, .null])), (hN, .inr (3, [.null, .int 0]))] H := hP
  have hD : va_D (va_A w0 s.heap.size) [(hI, .inr (1, [.int 0, .int 0, .int 0, .int 0, .int 0, .int 0, .int 0, .null, .null])), (hN, .inr (3, [.null, .int 0]))] := hD
  refine lv_dup hx hb dX1_init_8 rfl ?_
  have hPc := hP.sub (ws' := [(hN, .inr (3, [.null, .int 0]))]) [1] rfl
  have hDc := hD.sub (ws' := [(hN, .inr (3, [.null, .int 0]))]) [1] (by decide) rfl
  have hFc := va_free (wc := [(hN, .inr (3, [.null, .int 0]))]) hD hS hA [1] rfl
  refine va_callv (va_runIN (As := []) (rest := [.ref hN, .ref hI]) ⟨hx, hb, hml, hown, hts⟩ (c_X5_init l dC dI cI cJ hN H.size) ⟨va_cnB 0 hts ggX1_init_X5_init rfl rfl rfl (hNs (RX1, 13, yX5_init) (List.mem_of_getElem? (i := 0) rfl)) (hts (.initialized RX5) mm_X1_init_iX5) (by decide +kernel) ⟨(Nat.le_of_ble_eq_true rfl), (Nat.le_of_ble_eq_true rfl)⟩, rfl, hts (.instanceMethod yX5_init) mm_X1_init_nX5_init⟩ ⟨fb_wc _ _ _ _ _ _, fun U hU hW => ⟨rfl, by rw [hU], by rw [hU]; exact hPc, va_K.moved hW.alike hK, hDc.weaken (fun _ _ _ _ => trivial), Ns.warm hW hNs (fun _ h => nomatch h)⟩⟩ rfl rfl hl.1 rfl (lv_room (Nat.le_of_ble_eq_true rfl)) dX1_init_9 ⟨(Nat.le_of_ble_eq_true rfl), (Nat.le_of_ble_eq_true rfl)⟩) hS (fun q _ h => hFc q h) hFc (fun u t H1 locs ht hvm hw hB hz1 hk1 hS => ?_)
  obtain ⟨n1, rfl⟩ := hw
  obtain ⟨hP1, hK1, hD1⟩ := hB
  rw [ht] at hP1
  obtain ⟨hP, hD⟩ := va_join (wr := [(hI, .inr (1, [.int 0, .int 0, .int 0, .int 0, .int 0, .int 0, .int 0, .null, .null]))]) (w1 := [(hN, .inr (3, [.ref n1, .int 0])), (n1, .inl (cI, 3, .inl (fun _ => 0)))]) hP hD [1] [0] rfl rfl (by decide) (by decide) hk1 hFc hP1 hD1
  generalize H1 = H at hP hS ⊢
  have hP : va_P (dC, dI) vwCl [(hI, .inr (1, [.int 0, .int 0, .int 0, .int 0, .int 0, .int 0, .int 0, .null, .null])), (hN, .inr (3, [.ref n1, .int 0])), (n1, .inl (cI, 3, .inl (fun _ => 0)))] H := hP
  have hD : va_D (va_A w0 s.heap.size) [(hI, .inr (1, [.int 0, .int 0, .int 0, .int 0, .int 0, .int 0, .int 0, .null, .null])), (hN, .inr (3, [.ref n1, .int 0])), (n1, .inl (cI, 3, .inl (fun _ => 0)))] := hD
  refine va_putF (D := (dC, dI)) (ci := 1) (v := .ref hN) (ty := .object "ScoreboardCore$RegisterList") (C := RX1) (T := TX1) (N := 9) hx hb hts mi_X1_init_X1 tyX1 tyX1_ok nmX1 hown hK hP hD hS 0 rfl rfl 7 (by decide) (hts (.fieldLink RX1 14 "ScoreboardCore$Instruction" "needs" "LScoreboardCore$RegisterList;") mm_X1_init_f14) (fun _ h9 => h9) rfl hin rfl (by decide +kernel) rfl rfl (Nat.le_of_ble_eq_true rfl) dX1_init_12 (fun H locs hP hD hS => ?_)
  have hP : va_P (dC, dI) vwCl [(hI, .inr (1, [.int 0, .int 0, .int 0, .int 0, .int 0, .int 0, .int 0, .ref hN, .null])), (hN, .inr (3, [.ref n1, .int 0])), (n1, .inl (cI, 3, .inl (fun _ => 0)))] H := hP
  have hD : va_D (va_A w0 s.heap.size) [(hI, .inr (1, [.int 0, .int 0, .int 0, .int 0, .int 0, .int 0, .int 0, .ref hN, .null])), (hN, .inr (3, [.ref n1, .int 0])), (n1, .inl (cI, 3, .inl (fun _ => 0)))] := hD
  refine lv_aload_n hx hb dX1_init_15 rfl (lv_at hl 0 rfl) ?_
  refine va_new (ci := 3) (fs := [.null, .int 0]) (C := RX5) (T := TX5) (N := 2) hx hb hts mi_X1_init_X5 tyX5 tyX5_ok hown (hts (.classLink RX1 11 RX5) mm_X1_init_c11) (hts (.instantiable RX5 2) mm_X1_init_inX5) (hts (.initialized RX5) mm_X1_init_iX5) hK hP hD hS hA rfl (fun j hj => by rcases (show j = 0 ∨ j = 1 by omega) with rfl | rfl <;> rfl) (Nat.le_of_ble_eq_true rfl) (Nat.le_of_ble_eq_true rfl) dX1_init_16 (fun hR H hP hD hS => ?_)
  have hP : va_P (dC, dI) vwCl [(hI, .inr (1, [.int 0, .int 0, .int 0, .int 0, .int 0, .int 0, .int 0, .ref hN, .null])), (hN, .inr (3, [.ref n1, .int 0])), (n1, .inl (cI, 3, .inl (fun _ => 0))), (hR, .inr (3, [.null, .int 0]))] H := hP
  have hD : va_D (va_A w0 s.heap.size) [(hI, .inr (1, [.int 0, .int 0, .int 0, .int 0, .int 0, .int 0, .int 0, .ref hN, .null])), (hN, .inr (3, [.ref n1, .int 0])), (n1, .inl (cI, 3, .inl (fun _ => 0))), (hR, .inr (3, [.null, .int 0]))] := hD
  refine lv_dup hx hb dX1_init_19 rfl ?_
  have hPc := hP.sub (ws' := [(hR, .inr (3, [.null, .int 0]))]) [3] rfl
  have hDc := hD.sub (ws' := [(hR, .inr (3, [.null, .int 0]))]) [3] (by decide) rfl
  have hFc := va_free (wc := [(hR, .inr (3, [.null, .int 0]))]) hD hS hA [3] rfl
  refine va_callv (va_runIN (As := []) (rest := [.ref hR, .ref hI]) ⟨hx, hb, hml, hown, hts⟩ (c_X5_init l dC dI cI cJ hR H.size) ⟨va_cnB 0 hts ggX1_init_X5_init rfl rfl rfl (hNs (RX1, 13, yX5_init) (List.mem_of_getElem? (i := 0) rfl)) (hts (.initialized RX5) mm_X1_init_iX5) (by decide +kernel) ⟨(Nat.le_of_ble_eq_true rfl), (Nat.le_of_ble_eq_true rfl)⟩, rfl, hts (.instanceMethod yX5_init) mm_X1_init_nX5_init⟩ ⟨fb_wc _ _ _ _ _ _, fun U hU hW => ⟨rfl, by rw [hU], by rw [hU]; exact hPc, va_K.moved hW.alike hK, hDc.weaken (fun _ _ _ _ => trivial), Ns.warm hW hNs (fun _ h => nomatch h)⟩⟩ rfl rfl hl.1 rfl (lv_room (Nat.le_of_ble_eq_true rfl)) dX1_init_20 ⟨(Nat.le_of_ble_eq_true rfl), (Nat.le_of_ble_eq_true rfl)⟩) hS (fun q _ h => hFc q h) hFc (fun u t H1 locs ht hvm hw hB hz1 hk1 hS => ?_)
  obtain ⟨r1, rfl⟩ := hw
  obtain ⟨hP1, hK1, hD1⟩ := hB
  rw [ht] at hP1
  obtain ⟨hP, hD⟩ := va_join (wr := [(hI, .inr (1, [.int 0, .int 0, .int 0, .int 0, .int 0, .int 0, .int 0, .ref hN, .null])), (hN, .inr (3, [.ref n1, .int 0])), (n1, .inl (cI, 3, .inl (fun _ => 0)))]) (w1 := [(hR, .inr (3, [.ref r1, .int 0])), (r1, .inl (cI, 3, .inl (fun _ => 0)))]) hP hD [3] [0, 1, 2] rfl rfl (by decide) (by decide) hk1 hFc hP1 hD1
  generalize H1 = H at hP hS ⊢
  have hP : va_P (dC, dI) vwCl [(hI, .inr (1, [.int 0, .int 0, .int 0, .int 0, .int 0, .int 0, .int 0, .ref hN, .null])), (hN, .inr (3, [.ref n1, .int 0])), (n1, .inl (cI, 3, .inl (fun _ => 0))), (hR, .inr (3, [.ref r1, .int 0])), (r1, .inl (cI, 3, .inl (fun _ => 0)))] H := hP
  have hD : va_D (va_A w0 s.heap.size) [(hI, .inr (1, [.int 0, .int 0, .int 0, .int 0, .int 0, .int 0, .int 0, .ref hN, .null])), (hN, .inr (3, [.ref n1, .int 0])), (n1, .inl (cI, 3, .inl (fun _ => 0))), (hR, .inr (3, [.ref r1, .int 0])), (r1, .inl (cI, 3, .inl (fun _ => 0)))] := hD
  refine va_putF (D := (dC, dI)) (ci := 1) (v := .ref hR) (ty := .object "ScoreboardCore$RegisterList") (C := RX1) (T := TX1) (N := 9) hx hb hts mi_X1_init_X1 tyX1 tyX1_ok nmX1 hown hK hP hD hS 0 rfl rfl 8 (by decide) (hts (.fieldLink RX1 18 "ScoreboardCore$Instruction" "results" "LScoreboardCore$RegisterList;") mm_X1_init_f18) (fun _ h9 => h9) rfl hin rfl (by decide +kernel) rfl rfl (Nat.le_of_ble_eq_true rfl) dX1_init_23 (fun H locs hP hD hS => ?_)
  have hP : va_P (dC, dI) vwCl [(hI, .inr (1, [.int 0, .int 0, .int 0, .int 0, .int 0, .int 0, .int 0, .ref hN, .ref hR])), (hN, .inr (3, [.ref n1, .int 0])), (n1, .inl (cI, 3, .inl (fun _ => 0))), (hR, .inr (3, [.ref r1, .int 0])), (r1, .inl (cI, 3, .inl (fun _ => 0)))] H := hP
  have hD : va_D (va_A w0 s.heap.size) [(hI, .inr (1, [.int 0, .int 0, .int 0, .int 0, .int 0, .int 0, .int 0, .ref hN, .ref hR])), (hN, .inr (3, [.ref n1, .int 0])), (n1, .inl (cI, 3, .inl (fun _ => 0))), (hR, .inr (3, [.ref r1, .int 0])), (r1, .inl (cI, 3, .inl (fun _ => 0)))] := hD
  have hP9 := hP.sub (ws' := [(hI, .inr (1, [.int 0, .int 0, .int 0, .int 0, .int 0, .int 0, .int 0, .ref hN, .ref hR])), (hN, .inr (3, [.ref n1, .int 0])), (n1, .inl (cI, 3, .inl (fun _ => 0))), (hR, .inr (3, [.ref r1, .int 0])), (r1, .inl (cI, 3, .inl (fun _ => 0)))]) [0, 1, 2, 3, 4] rfl
  have hD9 := hD.sub (ws' := [(hI, .inr (1, [.int 0, .int 0, .int 0, .int 0, .int 0, .int 0, .int 0, .ref hN, .ref hR])), (hN, .inr (3, [.ref n1, .int 0])), (n1, .inl (cI, 3, .inl (fun _ => 0))), (hR, .inr (3, [.ref r1, .int 0])), (r1, .inl (cI, 3, .inl (fun _ => 0)))]) [0, 1, 2, 3, 4] (by decide) rfl
  refine W.widen (k := 4) (n := 10) (by decide) (by decide) ?_
  exact W.vret hx hb hr (fun t ht hW => ⟨⟨[(hI, .inr (1, [.int 0, .int 0, .int 0, .int 0, .int 0, .int 0, .int 0, .ref hN, .ref hR])), (hN, .inr (3, [.ref n1, .int 0])), (n1, .inl (cI, 3, .inl (fun _ => 0))), (hR, .inr (3, [.ref r1, .int 0])), (r1, .inl (cI, 3, .inl (fun _ => 0)))], rfl, ⟨hN, n1, hR, r1, rfl⟩, by rw [ht]; exact hP9, va_K.moved hW.alike hK, hD9⟩, hS.F ht⟩) hS.2.2 dX1_init_26
abbrev rm_X0_init : Room := { frames := 1, cells := 5, slots := 67, locals := 12 }
set_option maxRecDepth 20000 in
theorem mi_X0_init_X0 : ∀ w ∈ wsX00, w ∈ wsX0_init := by decide +kernel
set_option maxRecDepth 20000 in
theorem mm_X0_init_aI : Cond.arrayClass .int ∈ wsX0_init := by decide +kernel
set_option maxRecDepth 20000 in
theorem mm_X0_init_aJ : Cond.arrayClass .long ∈ wsX0_init := by decide +kernel
set_option maxRecDepth 20000 in
theorem mm_X0_init_co : Cond.code objectInit ⟨#[0xb1]⟩ 1 none ∈ wsX0_init := by decide +kernel
set_option maxRecDepth 20000 in
theorem mm_X0_init_f11 : Cond.fieldLink RX0 11 "ScoreboardCore$Board" "doneCounts" "[I" ∈ wsX0_init := by decide +kernel
set_option maxRecDepth 20000 in
theorem mm_X0_init_f15 : Cond.fieldLink RX0 15 "ScoreboardCore$Board" "waitCounts" "[J" ∈ wsX0_init := by decide +kernel
set_option maxRecDepth 20000 in
theorem mm_X0_init_f19 : Cond.fieldLink RX0 19 "ScoreboardCore$Board" "unitFreeFrom" "[I" ∈ wsX0_init := by decide +kernel
set_option maxRecDepth 20000 in
theorem mm_X0_init_f22 : Cond.fieldLink RX0 22 "ScoreboardCore$Board" "registerFreeFrom" "[I" ∈ wsX0_init := by decide +kernel
set_option maxRecDepth 20000 in
theorem mm_X0_init_f25 : Cond.fieldLink RX0 25 "ScoreboardCore$Board" "registerLastRead" "[I" ∈ wsX0_init := by decide +kernel
set_option maxRecDepth 20000 in
theorem mm_X0_init_io : Cond.instanceMethod objectInit ∈ wsX0_init := by decide +kernel
set_option maxRecDepth 20000 in
theorem mm_X0_init_l3 : Cond.methodLink RX0 3 objectInit ∈ wsX0_init := by decide +kernel
set_option maxHeartbeats 4000000 in
set_option maxRecDepth 100000 in
theorem c_X0_init (l : Launch) (dC : Nat → ClassId) (dI : Nat → Nat → Nat) (cI cJ : ClassId) (hB : Nat) (sz : Nat) : Met l yX0_init wsX0_init rm_X0_init (Wc_P [] (dC, dI) [(cI, .int), (cJ, .long)] [(hB, .inr (0, [.null, .null, .long 0, .null, .null, .null, .int 0, .int 0, .int 0]))] [.ref hB] sz) (va_Qv (fun (u : va_W) => ∃ b1 : Nat, ∃ b2 : Nat, ∃ b3 : Nat, ∃ b4 : Nat, ∃ b5 : Nat, u = [(hB, .inr (0, [.ref b1, .ref b2, .long 0, .ref b3, .ref b4, .ref b5, .int 0, .int 0, .int 0])), (b1, .inl (cI, 8, .inl (fun _ => 0))), (b2, .inl (cJ, 5, .inr (.inl (fun _ => 0)))), (b3, .inl (cI, 6, .inl (fun _ => 0))), (b4, .inl (cI, 24, .inl (fun _ => 0))), (b5, .inl (cI, 24, .inl (fun _ => 0)))]) (fun u t => va_P (dC, dI) vwCl u t.heap ∧ va_K (dC, dI) vwCl [(cI, .int), (cJ, .long)] t ∧ va_D (va_A [(hB, .inr (0, [.null, .null, .long 0, .null, .null, .null, .int 0, .int 0, .int 0]))] sz) u) (va_A [(hB, .inr (0, [.null, .null, .long 0, .null, .null, .null, .int 0, .int 0, .int 0]))] sz)) 5 67 (va_A [(hB, .inr (0, [.null, .null, .long 0, .null, .null, .null, .int 0, .int 0, .int 0]))] sz) := by
  refine Met.ofW (cc := cX0_init) (maxL := 1) (ret := none) (by decide) rfl ?_
  intro p e s m args below meth c s₁ B hml hv
  obtain ⟨rfl, rfl, hP, hK, hD0, hNs⟩ := hv
  have hin : meth.name = "<init>" := (name_of_methodNamed B.named B.method).1
  have C0 : Cx p s m meth c cX0_init 1 none wsX0_init RX0 _ := Cx.ofB (y := yX0_init) rfl B hml
  obtain ⟨hx, hb, hr, hlk, hml, hown, hts⟩ := C0
  have hD := hD0.self (sz := s.heap.size)
  generalize hw0 : ([(hB, .inr (0, [.null, .null, .long 0, .null, .null, .null, .int 0, .int 0, .int 0]))] : va_W) = w0 at hD ⊢
  have hA : ∀ q : Nat, s.heap.size ≤ q → va_A w0 s.heap.size q := fun q h => Or.inr h
  have hS : va_S (va_A w0 s.heap.size) s.heap s.heap [] := va_S.rf
  refine ent_W (As := [.ref hB]) (Nat.le_of_ble_eq_true rfl) (lv := [(0, .ref hB)]) rfl (fun ls hl => ?_)
  have hD : va_D (va_A w0 s.heap.size) [(hB, .inr (0, [.null, .null, .long 0, .null, .null, .null, .int 0, .int 0, .int 0]))] := by rw [hw0]; exact hD
  clear hw0
  refine lv_aload_n hx hb dX0_init_0 rfl (lv_at hl 0 rfl) ?_
  refine W.objInit hx hb hown (hts (.methodLink RX0 3 objectInit) mm_X0_init_l3) (hts (.instanceMethod objectInit) mm_X0_init_io) (hts (.code objectInit ⟨#[0xb1]⟩ 1 none) mm_X0_init_co) rfl (by rw [hml]; exact hl.1) rfl dX0_init_1 (Nat.le_of_ble_eq_true rfl) (Nat.le_of_ble_eq_true rfl) ?_
  refine W.eq (g2 := F0 m 4 ls []) rfl ?_
  refine lv_aload_n hx hb dX0_init_4 rfl (lv_at hl 0 rfl) ?_
  refine lv_bipush (v := (8 : Int32)) hx hb dX0_init_5 (by decide) ?_
  refine nw_arr (D := (dC, dI)) (atype := .int) (ty := .int) (N' := 8) (n := (8 : Int32)) (a0 := (8, .inl (fun _ => 0))) hx hb (hts (.arrayClass .int) mm_X0_init_aI) rfl hK hP hD hS hA 0 rfl (Or.inl rfl) (fun _ => vp_cell_i _ _ _) (by decide) (by decide) (by decide) (Nat.le_of_ble_eq_true rfl) (Nat.le_of_ble_eq_true rfl) dX0_init_7 (fun b1 H hP hD hS => ?_)
  have hP : va_P (dC, dI) vwCl [(hB, .inr (0, [.null, .null, .long 0, .null, .null, .null, .int 0, .int 0, .int 0])), (b1, .inl (cI, 8, .inl (fun _ => 0)))] H := hP
  have hD : va_D (va_A w0 s.heap.size) [(hB, .inr (0, [.null, .null, .long 0, .null, .null, .null, .int 0, .int 0, .int 0])), (b1, .inl (cI, 8, .inl (fun _ => 0)))] := hD
  refine va_putF (D := (dC, dI)) (ci := 0) (v := .ref b1) (ty := .array .int) (C := RX0) (T := TX0) (N := 9) hx hb hts mi_X0_init_X0 tyX0 tyX0_ok nmX0 hown hK hP hD hS 0 rfl rfl 0 (by decide) (hts (.fieldLink RX0 11 "ScoreboardCore$Board" "doneCounts" "[I") mm_X0_init_f11) (fun _ h9 => h9) rfl hin rfl (by decide +kernel) rfl rfl (Nat.le_of_ble_eq_true rfl) dX0_init_9 (fun H locs hP hD hS => ?_)
  have hP : va_P (dC, dI) vwCl [(hB, .inr (0, [.ref b1, .null, .long 0, .null, .null, .null, .int 0, .int 0, .int 0])), (b1, .inl (cI, 8, .inl (fun _ => 0)))] H := hP
  have hD : va_D (va_A w0 s.heap.size) [(hB, .inr (0, [.ref b1, .null, .long 0, .null, .null, .null, .int 0, .int 0, .int 0])), (b1, .inl (cI, 8, .inl (fun _ => 0)))] := hD
  refine lv_aload_n hx hb dX0_init_12 rfl (lv_at hl 0 rfl) ?_
  refine lv_iconst (v := (5 : Int32)) hx hb dX0_init_13 (by decide) ?_
  refine nw_arr (D := (dC, dI)) (atype := .long) (ty := .long) (N' := 5) (n := (5 : Int32)) (a0 := (5, .inr (.inl (fun _ => 0)))) hx hb (hts (.arrayClass .long) mm_X0_init_aJ) rfl hK hP hD hS hA 1 rfl (Or.inr rfl) (fun _ => vp_cell_l _ _ _) (by decide) (by decide) (by decide) (Nat.le_of_ble_eq_true rfl) (Nat.le_of_ble_eq_true rfl) dX0_init_14 (fun b2 H hP hD hS => ?_)
  have hP : va_P (dC, dI) vwCl [(hB, .inr (0, [.ref b1, .null, .long 0, .null, .null, .null, .int 0, .int 0, .int 0])), (b1, .inl (cI, 8, .inl (fun _ => 0))), (b2, .inl (cJ, 5, .inr (.inl (fun _ => 0))))] H := hP
  have hD : va_D (va_A w0 s.heap.size) [(hB, .inr (0, [.ref b1, .null, .long 0, .null, .null, .null, .int 0, .int 0, .int 0])), (b1, .inl (cI, 8, .inl (fun _ => 0))), (b2, .inl (cJ, 5, .inr (.inl (fun _ => 0))))] := hD
  refine va_putF (D := (dC, dI)) (ci := 0) (v := .ref b2) (ty := .array .long) (C := RX0) (T := TX0) (N := 9) hx hb hts mi_X0_init_X0 tyX0 tyX0_ok nmX0 hown hK hP hD hS 0 rfl rfl 1 (by decide) (hts (.fieldLink RX0 15 "ScoreboardCore$Board" "waitCounts" "[J") mm_X0_init_f15) (fun _ h9 => h9) rfl hin rfl (by decide +kernel) rfl rfl (Nat.le_of_ble_eq_true rfl) dX0_init_16 (fun H locs hP hD hS => ?_)
  have hP : va_P (dC, dI) vwCl [(hB, .inr (0, [.ref b1, .ref b2, .long 0, .null, .null, .null, .int 0, .int 0, .int 0])), (b1, .inl (cI, 8, .inl (fun _ => 0))), (b2, .inl (cJ, 5, .inr (.inl (fun _ => 0))))] H := hP
  have hD : va_D (va_A w0 s.heap.size) [(hB, .inr (0, [.ref b1, .ref b2, .long 0, .null, .null, .null, .int 0, .int 0, .int 0])), (b1, .inl (cI, 8, .inl (fun _ => 0))), (b2, .inl (cJ, 5, .inr (.inl (fun _ => 0))))] := hD
  refine lv_aload_n hx hb dX0_init_19 rfl (lv_at hl 0 rfl) ?_
  refine lv_bipush (v := (6 : Int32)) hx hb dX0_init_20 (by decide) ?_
  refine nw_arr (D := (dC, dI)) (atype := .int) (ty := .int) (N' := 6) (n := (6 : Int32)) (a0 := (6, .inl (fun _ => 0))) hx hb (hts (.arrayClass .int) mm_X0_init_aI) rfl hK hP hD hS hA 0 rfl (Or.inl rfl) (fun _ => vp_cell_i _ _ _) (by decide) (by decide) (by decide) (Nat.le_of_ble_eq_true rfl) (Nat.le_of_ble_eq_true rfl) dX0_init_22 (fun b3 H hP hD hS => ?_)
  have hP : va_P (dC, dI) vwCl [(hB, .inr (0, [.ref b1, .ref b2, .long 0, .null, .null, .null, .int 0, .int 0, .int 0])), (b1, .inl (cI, 8, .inl (fun _ => 0))), (b2, .inl (cJ, 5, .inr (.inl (fun _ => 0)))), (b3, .inl (cI, 6, .inl (fun _ => 0)))] H := hP
  have hD : va_D (va_A w0 s.heap.size) [(hB, .inr (0, [.ref b1, .ref b2, .long 0, .null, .null, .null, .int 0, .int 0, .int 0])), (b1, .inl (cI, 8, .inl (fun _ => 0))), (b2, .inl (cJ, 5, .inr (.inl (fun _ => 0)))), (b3, .inl (cI, 6, .inl (fun _ => 0)))] := hD
  refine va_putF (D := (dC, dI)) (ci := 0) (v := .ref b3) (ty := .array .int) (C := RX0) (T := TX0) (N := 9) hx hb hts mi_X0_init_X0 tyX0 tyX0_ok nmX0 hown hK hP hD hS 0 rfl rfl 3 (by decide) (hts (.fieldLink RX0 19 "ScoreboardCore$Board" "unitFreeFrom" "[I") mm_X0_init_f19) (fun _ h9 => h9) rfl hin rfl (by decide +kernel) rfl rfl (Nat.le_of_ble_eq_true rfl) dX0_init_24 (fun H locs hP hD hS => ?_)
  have hP : va_P (dC, dI) vwCl [(hB, .inr (0, [.ref b1, .ref b2, .long 0, .ref b3, .null, .null, .int 0, .int 0, .int 0])), (b1, .inl (cI, 8, .inl (fun _ => 0))), (b2, .inl (cJ, 5, .inr (.inl (fun _ => 0)))), (b3, .inl (cI, 6, .inl (fun _ => 0)))] H := hP
  have hD : va_D (va_A w0 s.heap.size) [(hB, .inr (0, [.ref b1, .ref b2, .long 0, .ref b3, .null, .null, .int 0, .int 0, .int 0])), (b1, .inl (cI, 8, .inl (fun _ => 0))), (b2, .inl (cJ, 5, .inr (.inl (fun _ => 0)))), (b3, .inl (cI, 6, .inl (fun _ => 0)))] := hD
  refine lv_aload_n hx hb dX0_init_27 rfl (lv_at hl 0 rfl) ?_
  refine lv_bipush (v := (24 : Int32)) hx hb dX0_init_28 (by decide) ?_
  refine nw_arr (D := (dC, dI)) (atype := .int) (ty := .int) (N' := 24) (n := (24 : Int32)) (a0 := (24, .inl (fun _ => 0))) hx hb (hts (.arrayClass .int) mm_X0_init_aI) rfl hK hP hD hS hA 0 rfl (Or.inl rfl) (fun _ => vp_cell_i _ _ _) (by decide) (by decide) (by decide) (Nat.le_of_ble_eq_true rfl) (Nat.le_of_ble_eq_true rfl) dX0_init_30 (fun b4 H hP hD hS => ?_)
  have hP : va_P (dC, dI) vwCl [(hB, .inr (0, [.ref b1, .ref b2, .long 0, .ref b3, .null, .null, .int 0, .int 0, .int 0])), (b1, .inl (cI, 8, .inl (fun _ => 0))), (b2, .inl (cJ, 5, .inr (.inl (fun _ => 0)))), (b3, .inl (cI, 6, .inl (fun _ => 0))), (b4, .inl (cI, 24, .inl (fun _ => 0)))] H := hP
  have hD : va_D (va_A w0 s.heap.size) [(hB, .inr (0, [.ref b1, .ref b2, .long 0, .ref b3, .null, .null, .int 0, .int 0, .int 0])), (b1, .inl (cI, 8, .inl (fun _ => 0))), (b2, .inl (cJ, 5, .inr (.inl (fun _ => 0)))), (b3, .inl (cI, 6, .inl (fun _ => 0))), (b4, .inl (cI, 24, .inl (fun _ => 0)))] := hD
  refine va_putF (D := (dC, dI)) (ci := 0) (v := .ref b4) (ty := .array .int) (C := RX0) (T := TX0) (N := 9) hx hb hts mi_X0_init_X0 tyX0 tyX0_ok nmX0 hown hK hP hD hS 0 rfl rfl 4 (by decide) (hts (.fieldLink RX0 22 "ScoreboardCore$Board" "registerFreeFrom" "[I") mm_X0_init_f22) (fun _ h9 => h9) rfl hin rfl (by decide +kernel) rfl rfl (Nat.le_of_ble_eq_true rfl) dX0_init_32 (fun H locs hP hD hS => ?_)
  have hP : va_P (dC, dI) vwCl [(hB, .inr (0, [.ref b1, .ref b2, .long 0, .ref b3, .ref b4, .null, .int 0, .int 0, .int 0])), (b1, .inl (cI, 8, .inl (fun _ => 0))), (b2, .inl (cJ, 5, .inr (.inl (fun _ => 0)))), (b3, .inl (cI, 6, .inl (fun _ => 0))), (b4, .inl (cI, 24, .inl (fun _ => 0)))] H := hP
  have hD : va_D (va_A w0 s.heap.size) [(hB, .inr (0, [.ref b1, .ref b2, .long 0, .ref b3, .ref b4, .null, .int 0, .int 0, .int 0])), (b1, .inl (cI, 8, .inl (fun _ => 0))), (b2, .inl (cJ, 5, .inr (.inl (fun _ => 0)))), (b3, .inl (cI, 6, .inl (fun _ => 0))), (b4, .inl (cI, 24, .inl (fun _ => 0)))] := hD
  refine lv_aload_n hx hb dX0_init_35 rfl (lv_at hl 0 rfl) ?_
  refine lv_bipush (v := (24 : Int32)) hx hb dX0_init_36 (by decide) ?_
  refine nw_arr (D := (dC, dI)) (atype := .int) (ty := .int) (N' := 24) (n := (24 : Int32)) (a0 := (24, .inl (fun _ => 0))) hx hb (hts (.arrayClass .int) mm_X0_init_aI) rfl hK hP hD hS hA 0 rfl (Or.inl rfl) (fun _ => vp_cell_i _ _ _) (by decide) (by decide) (by decide) (Nat.le_of_ble_eq_true rfl) (Nat.le_of_ble_eq_true rfl) dX0_init_38 (fun b5 H hP hD hS => ?_)
  have hP : va_P (dC, dI) vwCl [(hB, .inr (0, [.ref b1, .ref b2, .long 0, .ref b3, .ref b4, .null, .int 0, .int 0, .int 0])), (b1, .inl (cI, 8, .inl (fun _ => 0))), (b2, .inl (cJ, 5, .inr (.inl (fun _ => 0)))), (b3, .inl (cI, 6, .inl (fun _ => 0))), (b4, .inl (cI, 24, .inl (fun _ => 0))), (b5, .inl (cI, 24, .inl (fun _ => 0)))] H := hP
  have hD : va_D (va_A w0 s.heap.size) [(hB, .inr (0, [.ref b1, .ref b2, .long 0, .ref b3, .ref b4, .null, .int 0, .int 0, .int 0])), (b1, .inl (cI, 8, .inl (fun _ => 0))), (b2, .inl (cJ, 5, .inr (.inl (fun _ => 0)))), (b3, .inl (cI, 6, .inl (fun _ => 0))), (b4, .inl (cI, 24, .inl (fun _ => 0))), (b5, .inl (cI, 24, .inl (fun _ => 0)))] := hD
  refine va_putF (D := (dC, dI)) (ci := 0) (v := .ref b5) (ty := .array .int) (C := RX0) (T := TX0) (N := 9) hx hb hts mi_X0_init_X0 tyX0 tyX0_ok nmX0 hown hK hP hD hS 0 rfl rfl 5 (by decide) (hts (.fieldLink RX0 25 "ScoreboardCore$Board" "registerLastRead" "[I") mm_X0_init_f25) (fun _ h9 => h9) rfl hin rfl (by decide +kernel) rfl rfl (Nat.le_of_ble_eq_true rfl) dX0_init_40 (fun H locs hP hD hS => ?_)
  have hP : va_P (dC, dI) vwCl [(hB, .inr (0, [.ref b1, .ref b2, .long 0, .ref b3, .ref b4, .ref b5, .int 0, .int 0, .int 0])), (b1, .inl (cI, 8, .inl (fun _ => 0))), (b2, .inl (cJ, 5, .inr (.inl (fun _ => 0)))), (b3, .inl (cI, 6, .inl (fun _ => 0))), (b4, .inl (cI, 24, .inl (fun _ => 0))), (b5, .inl (cI, 24, .inl (fun _ => 0)))] H := hP
  have hD : va_D (va_A w0 s.heap.size) [(hB, .inr (0, [.ref b1, .ref b2, .long 0, .ref b3, .ref b4, .ref b5, .int 0, .int 0, .int 0])), (b1, .inl (cI, 8, .inl (fun _ => 0))), (b2, .inl (cJ, 5, .inr (.inl (fun _ => 0)))), (b3, .inl (cI, 6, .inl (fun _ => 0))), (b4, .inl (cI, 24, .inl (fun _ => 0))), (b5, .inl (cI, 24, .inl (fun _ => 0)))] := hD
  have hP9 := hP.sub (ws' := [(hB, .inr (0, [.ref b1, .ref b2, .long 0, .ref b3, .ref b4, .ref b5, .int 0, .int 0, .int 0])), (b1, .inl (cI, 8, .inl (fun _ => 0))), (b2, .inl (cJ, 5, .inr (.inl (fun _ => 0)))), (b3, .inl (cI, 6, .inl (fun _ => 0))), (b4, .inl (cI, 24, .inl (fun _ => 0))), (b5, .inl (cI, 24, .inl (fun _ => 0)))]) [0, 1, 2, 3, 4, 5] rfl
  have hD9 := hD.sub (ws' := [(hB, .inr (0, [.ref b1, .ref b2, .long 0, .ref b3, .ref b4, .ref b5, .int 0, .int 0, .int 0])), (b1, .inl (cI, 8, .inl (fun _ => 0))), (b2, .inl (cJ, 5, .inr (.inl (fun _ => 0)))), (b3, .inl (cI, 6, .inl (fun _ => 0))), (b4, .inl (cI, 24, .inl (fun _ => 0))), (b5, .inl (cI, 24, .inl (fun _ => 0)))]) [0, 1, 2, 3, 4, 5] (by decide) rfl
  refine W.widen (k := 5) (n := 67) (by decide) (by decide) ?_
  exact W.vret hx hb hr (fun t ht hW => ⟨⟨[(hB, .inr (0, [.ref b1, .ref b2, .long 0, .ref b3, .ref b4, .ref b5, .int 0, .int 0, .int 0])), (b1, .inl (cI, 8, .inl (fun _ => 0))), (b2, .inl (cJ, 5, .inr (.inl (fun _ => 0)))), (b3, .inl (cI, 6, .inl (fun _ => 0))), (b4, .inl (cI, 24, .inl (fun _ => 0))), (b5, .inl (cI, 24, .inl (fun _ => 0)))], rfl, ⟨b1, b2, b3, b4, b5, rfl⟩, by rw [ht]; exact hP9, va_K.moved hW.alike hK, hD9⟩, hS.F ht⟩) hS.2.2 dX0_init_43