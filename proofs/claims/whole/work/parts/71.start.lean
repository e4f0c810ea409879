set_option maxRecDepth 20000 in
theorem lm_zU : Cond.laysStatic "ScoreboardCore$Board" "UNIT_CYCLES" "[I" ∈ lw_tbl := lwt3 (List.mem_of_getElem? (i := 66) rfl)
set_option maxRecDepth 20000 in
theorem lm_zA : Cond.laysStatic Bundle.tN "UNASSIGNED_STACK" Bundle.steD ∈ lw_tbl := lwt1 (List.mem_of_getElem? (i := 210) rfl)
set_option maxRecDepth 20000 in
theorem lm_zB : Cond.laysStatic Bundle.tN "SUPPRESSED_SENTINEL" Bundle.listD ∈ lw_tbl := lwt1 (List.mem_of_getElem? (i := 212) rfl)
set_option maxRecDepth 20000 in
theorem lm_zT : Cond.initialized Bundle.tN ∈ lw_tbl := lwt1 (List.mem_of_getElem? (i := 8) rfl)
set_option maxRecDepth 20000 in
theorem lm_zX0 : Cond.initialized RX0 ∈ lw_tbl := lwt1 (List.mem_of_getElem? (i := 4) rfl)
set_option maxRecDepth 20000 in
theorem lm_d1 : Cond.declares ⟨"java/lang/RuntimeException", "<init>", "()V"⟩ ∈ lw_tbl := lwt1 (List.mem_of_getElem? (i := 186) rfl)
set_option maxRecDepth 20000 in
theorem lm_d2 : Cond.declares ⟨"java/lang/Exception", "<init>", "()V"⟩ ∈ lw_tbl := lwt1 (List.mem_of_getElem? (i := 188) rfl)
set_option maxRecDepth 20000 in
theorem lm_d3 : Cond.declares ⟨"java/lang/Throwable", "<init>", "()V"⟩ ∈ lw_tbl := lwt1 (List.mem_of_getElem? (i := 190) rfl)
set_option maxRecDepth 20000 in
theorem lm_ci : Cond.castable "java/lang/IndexOutOfBoundsException" "java/lang/IndexOutOfBoundsException" ∈ lw_tbl := lwt1 (List.mem_of_getElem? (i := 185) rfl)
set_option maxRecDepth 20000 in
theorem lm_ca : Cond.castable "java/lang/IllegalArgumentException" "java/lang/IllegalArgumentException" ∈ lw_tbl := lwt2 (List.mem_of_getElem? (i := 56) rfl)
set_option maxRecDepth 20000 in
theorem lm_n9 : Cond.methodLinkNest RX8 9 yX3_init "ScoreboardCore" ∈ lw_tbl := lwt1 (List.mem_of_getElem? (i := 30) rfl)
set_option maxRecDepth 20000 in
theorem lm_n18 : Cond.methodLinkNest RX8 18 yX6_init "ScoreboardCore" ∈ lw_tbl := lwt1 (List.mem_of_getElem? (i := 44) rfl)
set_option maxRecDepth 20000 in
theorem lm_n25 : Cond.methodLinkNest RX8 25 yX0_init "ScoreboardCore" ∈ lw_tbl := lwt1 (List.mem_of_getElem? (i := 54) rfl)
set_option maxRecDepth 20000 in
theorem lm_n32 : Cond.methodLinkNest RX8 32 yX1_init "ScoreboardCore" ∈ lw_tbl := lwt1 (List.mem_of_getElem? (i := 89) rfl)
set_option maxRecDepth 20000 in
theorem lm_n13 : Cond.methodLinkNest RX1 13 yX5_init "ScoreboardCore" ∈ lw_tbl := lwt1 (List.mem_of_getElem? (i := 95) rfl)
set_option maxRecDepth 20000 in
theorem lm_k0 : Cond.instantiable RX0 9 ∈ lw_tbl := lwt1 (List.mem_of_getElem? (i := 53) rfl)
set_option maxRecDepth 20000 in
theorem lm_k1 : Cond.instantiable RX1 9 ∈ lw_tbl := lwt1 (List.mem_of_getElem? (i := 88) rfl)
set_option maxRecDepth 20000 in
theorem lm_k3 : Cond.instantiable RX3 2 ∈ lw_tbl := lwt1 (List.mem_of_getElem? (i := 29) rfl)
set_option maxRecDepth 20000 in
theorem lm_k5 : Cond.instantiable RX5 2 ∈ lw_tbl := lwt1 (List.mem_of_getElem? (i := 94) rfl)
set_option maxRecDepth 20000 in
theorem lm_k6 : Cond.instantiable RX6 1 ∈ lw_tbl := lwt1 (List.mem_of_getElem? (i := 43) rfl)
set_option maxRecDepth 20000 in
theorem lm_k8 : Cond.instantiable RX8 7 ∈ lw_tbl := lwt1 (List.mem_of_getElem? (i := 21) rfl)
set_option maxRecDepth 20000 in
theorem lm_k9 : Cond.instantiable RX9 24 ∈ lw_tbl := lwt3 (List.mem_of_getElem? (i := 185) rfl)
set_option maxRecDepth 20000 in
theorem lm_aI : Cond.arrayClass .int ∈ lw_tbl := lwt1 (List.mem_of_getElem? (i := 86) rfl)
set_option maxRecDepth 20000 in
theorem lm_aJ : Cond.arrayClass .long ∈ lw_tbl := lwt1 (List.mem_of_getElem? (i := 41) rfl)
theorem arr_K {args : Array Value} {s : State} {ty : FieldType} (hp : ty = .int ∨ ty = .long) (h : (Cond.arrayClass ty).before args s = true) : ∃ cA : ClassId, ArrOfT s cA ty ∧ va_RA s cA ty := by
  obtain ⟨cA, kA, comp, h1, h2, h3⟩ := Cond.arrayClass_spec h
  refine ⟨cA, fun n z => ⟨fun k h => (by cases h), kA, h2, comp, h3⟩, ?_⟩
  rcases hp with rfl | rfl
  · exact h1
  · exact h1
theorem uc_j : ∀ j, j < 6 → (Value.int (uc j)) = .int (if j = 3 then 8 else 3) := fun j _ => rfl
set_option maxRecDepth 20000 in
theorem start_facts {p : Program} {l : Launch} {s : State} {m : MethodId} {meth : Method} {c : Code} {b L : Nat} {xs : Nat → Int32} (hL : L ≤ 2048) (C0 : lw_At p s m meth c b L xs) : ∃ (dC : Nat → ClassId) (dI : Nat → Nat → Nat) (cI cJ : ClassId), LFx p l s m meth c (dC, dI) [(cI, .int), (cJ, .long)] b L xs ∧ Ns [(RX8, 9, yX3_init), (RX8, 18, yX6_init), (RX8, 25, yX0_init), (RX8, 32, yX1_init), (RX1, 13, yX5_init)] s := by
  obtain ⟨hx, hb, hr, hml, hown, hts, hX, hbl, hlk, hgv⟩ := C0
  have hA : ∀ a : Nat, a < s.heap.size → ¬ (fun q : Nat => s.heap.size ≤ q) a := fun a h => Nat.not_le.mpr h
  have hs := flat_of_before _ hgv
  obtain ⟨c0, i0, h0⟩ := u_known (C := RX0) (T := TX0) (N := 9) (n := 9) hts lin_wsX00 (hts _ lm_k0)
  obtain ⟨c1, i1, h1⟩ := u_known (C := RX1) (T := TX1) (N := 9) (n := 9) hts lin_wsX10 (hts _ lm_k1)
  obtain ⟨c2, i2, h2⟩ := u_known (C := RX3) (T := TX3) (N := 2) (n := 2) hts lin_wsX30 (hts _ lm_k3)
  obtain ⟨c3, i3, h3⟩ := u_known (C := RX5) (T := TX5) (N := 2) (n := 2) hts lin_wsX50 (hts _ lm_k5)
  obtain ⟨c4, i4, h4⟩ := u_known (C := RX6) (T := TX6) (N := 1) (n := 1) hts lin_wsX60 (hts _ lm_k6)
  obtain ⟨c5, i5, h5⟩ := u_known (C := RX8) (T := TX8) (N := 7) (n := 7) hts lin_wsX80 (hts _ lm_k8)
  obtain ⟨c6, i6, h6⟩ := u_known (C := RX9) (T := TX9) (N := 24) (n := 24) hts lin_wsX90 (hts _ lm_k9)
  obtain ⟨cI, aI1, aI2⟩ := arr_K (Or.inl rfl) (hts _ lm_aI)
  obtain ⟨cJ, aJ1, aJ2⟩ := arr_K (Or.inr rfl) (hts _ lm_aJ)
  obtain ⟨dC, dI, hKc⟩ : ∃ (dC : Nat → ClassId) (dI : Nat → Nat → Nat), ∀ (k : Nat) (q : vw_C), vwCl[k]? = some q → u_Kn s q.1 q.2.1 q.2.2 (dC k) (dI k) := by
    refine ⟨fun k => if k = 0 then c0 else if k = 1 then c1 else if k = 2 then c2 else if k = 3 then c3 else if k = 4 then c4 else if k = 5 then c5 else c6, fun k => if k = 0 then i0 else if k = 1 then i1 else if k = 2 then i2 else if k = 3 then i3 else if k = 4 then i4 else if k = 5 then i5 else i6, ?_⟩
    intro k q hq
    match k, hq with
    | 0, hq => cases hq; exact h0
    | 1, hq => cases hq; exact h1
    | 2, hq => cases hq; exact h2
    | 3, hq => cases hq; exact h3
    | 4, hq => cases hq; exact h4
    | 5, hq => cases hq; exact h5
    | 6, hq => cases hq; exact h6
    | k + 7, hq => simp [vwCl] at hq
  have hK : va_K (dC, dI) vwCl [(cI, .int), (cJ, .long)] s := by
    refine ⟨hKc, fun k q hq => ?_⟩
    match k, hq with
    | 0, hq => cases hq; exact ⟨aI1, aI2⟩
    | 1, hq => cases hq; exact ⟨aJ1, aJ2⟩
    | k + 2, hq => simp at hq
  have hZ : Zs true (fun q : Nat => s.heap.size ≤ q) s s.heap := by
    intro _
    have q0 := va_eqt (z := 3) (hs (Cond.eq (.elem (.static "ScoreboardCore$Board" "UNIT_CYCLES" "[I") (.int 0)) (.int 3)) (by decide +kernel))
    have q1 := va_eqt (z := 3) (hs (Cond.eq (.elem (.static "ScoreboardCore$Board" "UNIT_CYCLES" "[I") (.int 1)) (.int 3)) (by decide +kernel))
    have q2 := va_eqt (z := 3) (hs (Cond.eq (.elem (.static "ScoreboardCore$Board" "UNIT_CYCLES" "[I") (.int 2)) (.int 3)) (by decide +kernel))
    have q3 := va_eqt (z := 8) (hs (Cond.eq (.elem (.static "ScoreboardCore$Board" "UNIT_CYCLES" "[I") (.int 3)) (.int 8)) (by decide +kernel))
    have q4 := va_eqt (z := 3) (hs (Cond.eq (.elem (.static "ScoreboardCore$Board" "UNIT_CYCLES" "[I") (.int 4)) (.int 3)) (by decide +kernel))
    have q5 := va_eqt (z := 3) (hs (Cond.eq (.elem (.static "ScoreboardCore$Board" "UNIT_CYCLES" "[I") (.int 5)) (.int 3)) (by decide +kernel))
    have qn := va_eqt (z := 6) (hs (Cond.eq (.length (.static "ScoreboardCore$Board" "UNIT_CYCLES" "[I")) (.int 6)) (by decide +kernel))
    have qa := hs (Cond.arrayOf (.static "ScoreboardCore$Board" "UNIT_CYCLES" "[I") .int) (by decide +kernel)
    obtain ⟨t, ht, hT⟩ := va_Tof (N := 6) (f := fun j => Value.int (uc j)) (A := fun q : Nat => s.heap.size ≤ q) (by decide) qa qn (fun j hj => by
      rcases (show j = 0 ∨ j = 1 ∨ j = 2 ∨ j = 3 ∨ j = 4 ∨ j = 5 by omega) with rfl | rfl | rfl | rfl | rfl | rfl
      · exact q0
      · exact q1
      · exact q2
      · exact q3
      · exact q4
      · exact q5) hA
    exact ⟨t, va_Zof (hts _ lm_zU) (hts _ lm_zX0) ht hA, hT⟩
  have hZx : Zx (fun q : Nat => s.heap.size ≤ q) s s.heap := ⟨vx_Zqof (hts _ lm_zA) (hts _ lm_zT) (hs (Cond.isRef (.static "java/lang/Throwable" "UNASSIGNED_STACK" "[Ljava/lang/StackTraceElement;")) (by decide +kernel)) hA, vx_Zqof (hts _ lm_zB) (hts _ lm_zT) (hs (Cond.isRef (.static "java/lang/Throwable" "SUPPRESSED_SENTINEL" "Ljava/util/List;")) (by decide +kernel)) hA⟩
  have hN1 : Nx "java/lang/IndexOutOfBoundsException" s := ⟨va_Nw.of rfl (hts _ lm_d1), va_Nw.of rfl (hts _ lm_d2), va_Nw.of rfl (hts _ lm_d3), va_Nw.of rfl (hts _ lm_ci)⟩
  have hN2 : Nx "java/lang/IllegalArgumentException" s := ⟨va_Nw.of rfl (hts _ lm_d1), va_Nw.of rfl (hts _ lm_d2), va_Nw.of rfl (hts _ lm_d3), va_Nw.of rfl (hts _ lm_ca)⟩
  refine ⟨dC, dI, cI, cJ, ⟨⟨hx, hb, hr, hlk, hml, hown, fun w hw => hts w (wsL_law_in w hw)⟩, hX, hbl, hL, hK, hZ, hZx, hN1, hN2⟩, ?_⟩
  intro q hq
  rcases List.mem_cons.mp hq with rfl | hq
  · exact va_Nw.of rfl (hts _ lm_n9)
  rcases List.mem_cons.mp hq with rfl | hq
  · exact va_Nw.of rfl (hts _ lm_n18)
  rcases List.mem_cons.mp hq with rfl | hq
  · exact va_Nw.of rfl (hts _ lm_n25)
  rcases List.mem_cons.mp hq with rfl | hq
  · exact va_Nw.of rfl (hts _ lm_n32)
  rcases List.mem_cons.mp hq with rfl | hq
  · exact va_Nw.of rfl (hts _ lm_n13)
  exact absurd hq List.not_mem_nil
