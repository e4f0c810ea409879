theorem dX0_init_0 : decode cX0_init 0 = .ok (.aload_n 0, 1) := by decide +kernel
theorem dX0_init_1 : decode cX0_init 1 = .ok (.invokespecial 3, 3) := by decide +kernel
theorem dX0_init_4 : decode cX0_init 4 = .ok (.aload_n 0, 1) := by decide +kernel
theorem dX0_init_5 : decode cX0_init 5 = .ok (.bipush 8, 2) := by decide +kernel
theorem dX0_init_7 : decode cX0_init 7 = .ok (.newarray .int, 2) := by decide +kernel
theorem dX0_init_9 : decode cX0_init 9 = .ok (.putfield 11, 3) := by decide +kernel
theorem dX0_init_12 : decode cX0_init 12 = .ok (.aload_n 0, 1) := by decide +kernel
theorem dX0_init_13 : decode cX0_init 13 = .ok (.iconst 5, 1) := by decide +kernel
theorem dX0_init_14 : decode cX0_init 14 = .ok (.newarray .long, 2) := by decide +kernel
theorem dX0_init_16 : decode cX0_init 16 = .ok (.putfield 15, 3) := by decide +kernel
theorem dX0_init_19 : decode cX0_init 19 = .ok (.aload_n 0, 1) := by decide +kernel
theorem dX0_init_20 : decode cX0_init 20 = .ok (.bipush 6, 2) := by decide +kernel
theorem dX0_init_22 : decode cX0_init 22 = .ok (.newarray .int, 2) := by decide +kernel
theorem dX0_init_24 : decode cX0_init 24 = .ok (.putfield 19, 3) := by decide +kernel
theorem dX0_init_27 : decode cX0_init 27 = .ok (.aload_n 0, 1) := by decide +kernel
theorem dX0_init_28 : decode cX0_init 28 = .ok (.bipush 24, 2) := by decide +kernel
theorem dX0_init_30 : decode cX0_init 30 = .ok (.newarray .int, 2) := by decide +kernel
theorem dX0_init_32 : decode cX0_init 32 = .ok (.putfield 22, 3) := by decide +kernel
theorem dX0_init_35 : decode cX0_init 35 = .ok (.aload_n 0, 1) := by decide +kernel
theorem dX0_init_36 : decode cX0_init 36 = .ok (.bipush 24, 2) := by decide +kernel
theorem dX0_init_38 : decode cX0_init 38 = .ok (.newarray .int, 2) := by decide +kernel
theorem dX0_init_40 : decode cX0_init 40 = .ok (.putfield 25, 3) := by decide +kernel
theorem dX0_init_43 : decode cX0_init 43 = .ok (.return_, 1) := by decide +kernel
theorem dX0_doneBy_0 : decode cX0_doneBy 0 = .ok (.aload_n 0, 1) := by decide +kernel
theorem dX0_doneBy_1 : decode cX0_doneBy 1 = .ok (.getfield 11, 3) := by decide +kernel
theorem dX0_doneBy_4 : decode cX0_doneBy 4 = .ok (.iload_n 1, 1) := by decide +kernel
theorem dX0_doneBy_5 : decode cX0_doneBy 5 = .ok (.iaload, 1) := by decide +kernel
theorem dX0_doneBy_6 : decode cX0_doneBy 6 = .ok (.ireturn, 1) := by decide +kernel
theorem dX0_waitedFor_0 : decode cX0_waitedFor 0 = .ok (.aload_n 0, 1) := by decide +kernel
theorem dX0_waitedFor_1 : decode cX0_waitedFor 1 = .ok (.getfield 15, 3) := by decide +kernel
theorem dX0_waitedFor_4 : decode cX0_waitedFor 4 = .ok (.iload_n 1, 1) := by decide +kernel
theorem dX0_waitedFor_5 : decode cX0_waitedFor 5 = .ok (.laload, 1) := by decide +kernel
theorem dX0_waitedFor_6 : decode cX0_waitedFor 6 = .ok (.lreturn, 1) := by decide +kernel
theorem dX0_cyclesCounted_0 : decode cX0_cyclesCounted 0 = .ok (.aload_n 0, 1) := by decide +kernel
theorem dX0_cyclesCounted_1 : decode cX0_cyclesCounted 1 = .ok (.getfield 28, 3) := by decide +kernel
theorem dX0_cyclesCounted_4 : decode cX0_cyclesCounted 4 = .ok (.lreturn, 1) := by decide +kernel
set_option maxRecDepth 20000 in
theorem ggX0_empty_J7_fill_53178_1 : ∀ w ∈ ([] : List Cond), w ∈ wsX0_empty := fun _ h => nomatch h
theorem ggX0_empty_J7_fill_53178_m : ∀ w ∈ wsJ7_fill_53178, w ∈ wsX0_empty := fun w h => (List.mem_cons.mp h).elim (fun e => by rw [e]; exact List.mem_of_getElem? (i := 10) rfl) (fun h => ggX0_empty_J7_fill_53178_1 w h)
set_option maxRecDepth 20000 in
theorem ggX0_empty_J7_fill_53178 : GoodIn wsX0_empty wsJ7_fill_53178 := goodIn_sub ggX0_empty_J7_fill_53178_m (by decide +kernel)
theorem dX0_empty_0 : decode cX0_empty 0 = .ok (.aload_n 0, 1) := by decide +kernel
theorem dX0_empty_1 : decode cX0_empty 1 = .ok (.getfield 19, 3) := by decide +kernel
theorem dX0_empty_4 : decode cX0_empty 4 = .ok (.iconst 0, 1) := by decide +kernel
theorem dX0_empty_5 : decode cX0_empty 5 = .ok (.invokestatic 32, 3) := by decide +kernel
theorem dX0_empty_8 : decode cX0_empty 8 = .ok (.aload_n 0, 1) := by decide +kernel
theorem dX0_empty_9 : decode cX0_empty 9 = .ok (.getfield 22, 3) := by decide +kernel
theorem dX0_empty_12 : decode cX0_empty 12 = .ok (.iconst 0, 1) := by decide +kernel
theorem dX0_empty_13 : decode cX0_empty 13 = .ok (.invokestatic 32, 3) := by decide +kernel
theorem dX0_empty_16 : decode cX0_empty 16 = .ok (.aload_n 0, 1) := by decide +kernel
theorem dX0_empty_17 : decode cX0_empty 17 = .ok (.getfield 25, 3) := by decide +kernel
theorem dX0_empty_20 : decode cX0_empty 20 = .ok (.iconst 0, 1) := by decide +kernel
theorem dX0_empty_21 : decode cX0_empty 21 = .ok (.invokestatic 32, 3) := by decide +kernel
theorem dX0_empty_24 : decode cX0_empty 24 = .ok (.aload_n 0, 1) := by decide +kernel
theorem dX0_empty_25 : decode cX0_empty 25 = .ok (.iconst 0, 1) := by decide +kernel
theorem dX0_empty_26 : decode cX0_empty 26 = .ok (.putfield 38, 3) := by decide +kernel
theorem dX0_empty_29 : decode cX0_empty 29 = .ok (.aload_n 0, 1) := by decide +kernel
theorem dX0_empty_30 : decode cX0_empty 30 = .ok (.iconst 1, 1) := by decide +kernel
theorem dX0_empty_31 : decode cX0_empty 31 = .ok (.putfield 42, 3) := by decide +kernel
theorem dX0_empty_34 : decode cX0_empty 34 = .ok (.aload_n 0, 1) := by decide +kernel
theorem dX0_empty_35 : decode cX0_empty 35 = .ok (.iconst 0, 1) := by decide +kernel
theorem dX0_empty_36 : decode cX0_empty 36 = .ok (.putfield 45, 3) := by decide +kernel
theorem dX0_empty_39 : decode cX0_empty 39 = .ok (.return_, 1) := by decide +kernel
theorem dX0_countCycles_0 : decode cX0_countCycles 0 = .ok (.aload_n 0, 1) := by decide +kernel
theorem dX0_countCycles_1 : decode cX0_countCycles 1 = .ok (.dup, 1) := by decide +kernel
theorem dX0_countCycles_2 : decode cX0_countCycles 2 = .ok (.getfield 28, 3) := by decide +kernel
theorem dX0_countCycles_5 : decode cX0_countCycles 5 = .ok (.aload_n 0, 1) := by decide +kernel
theorem dX0_countCycles_6 : decode cX0_countCycles 6 = .ok (.getfield 45, 3) := by decide +kernel
theorem dX0_countCycles_9 : decode cX0_countCycles 9 = .ok (.i2l, 1) := by decide +kernel
theorem dX0_countCycles_10 : decode cX0_countCycles 10 = .ok (.ladd, 1) := by decide +kernel
theorem dX0_countCycles_11 : decode cX0_countCycles 11 = .ok (.putfield 28, 3) := by decide +kernel
theorem dX0_countCycles_14 : decode cX0_countCycles 14 = .ok (.return_, 1) := by decide +kernel
set_option maxRecDepth 20000 in
theorem ggX0_giveOut_X1_unit_1 : ∀ w ∈ ([.fieldLink RX1 45 "ScoreboardCore$Instruction" "unit" "I"] : List Cond), w ∈ wsX0_giveOut := List.forall_mem_cons.mpr ⟨List.mem_of_getElem? (i := 7) rfl, fun _ h => nomatch h⟩
set_option maxRecDepth 20000 in
theorem ggX0_giveOut_X1_unit_2 : ∀ w ∈ wsX10, w ∈ wsX0_giveOut := fun w h => List.mem_cons_of_mem _ (List.mem_append_left _ (List.mem_append_right _ (h)))
theorem ggX0_giveOut_X1_unit_m : ∀ w ∈ wsX1_unit, w ∈ wsX0_giveOut := fun w h => (List.mem_cons.mp h).elim (fun e => by rw [e]; exact List.mem_of_getElem? (i := 6) rfl) (fun h => (List.mem_append.mp h).elim (fun h => ggX0_giveOut_X1_unit_1 w h) (fun h => ggX0_giveOut_X1_unit_2 w h))
set_option maxRecDepth 20000 in
theorem ggX0_giveOut_X1_unit : GoodIn wsX0_giveOut wsX1_unit := goodIn_sub ggX0_giveOut_X1_unit_m (by decide +kernel)
set_option maxRecDepth 20000 in
theorem ggX0_giveOut_X0_givenOutAt_1 : ∀ w ∈ (wsX0_givenOutAt_r1 : List Cond), w ∈ wsX0_giveOut := List.forall_mem_cons.mpr ⟨List.mem_of_getElem? (i := 13) rfl, List.forall_mem_cons.mpr ⟨List.mem_of_getElem? (i := 14) rfl, List.forall_mem_cons.mpr ⟨List.mem_of_getElem? (i := 15) rfl, List.forall_mem_cons.mpr ⟨List.mem_of_getElem? (i := 16) rfl, List.forall_mem_cons.mpr ⟨List.mem_of_getElem? (i := 17) rfl, List.forall_mem_cons.mpr ⟨List.mem_of_getElem? (i := 1) rfl, List.forall_mem_cons.mpr ⟨List.mem_of_getElem? (i := 18) rfl, List.forall_mem_cons.mpr ⟨List.mem_of_getElem? (i := 2) rfl, List.forall_mem_cons.mpr ⟨List.mem_of_getElem? (i := 3) rfl, List.forall_mem_cons.mpr ⟨List.mem_of_getElem? (i := 4) rfl, List.forall_mem_cons.mpr ⟨List.mem_of_getElem? (i := 5) rfl, List.forall_mem_cons.mpr ⟨List.mem_of_getElem? (i := 6) rfl, List.forall_mem_cons.mpr ⟨List.mem_of_getElem? (i := 7) rfl, List.forall_mem_cons.mpr ⟨List.mem_of_getElem? (i := 19) rfl, List.forall_mem_cons.mpr ⟨List.mem_of_getElem? (i := 20) rfl, List.forall_mem_cons.mpr ⟨List.mem_of_getElem? (i := 21) rfl, List.forall_mem_cons.mpr ⟨List.mem_of_getElem? (i := 11) rfl, List.forall_mem_cons.mpr ⟨List.mem_of_getElem? (i := 22) rfl, List.forall_mem_cons.mpr ⟨List.mem_of_getElem? (i := 23) rfl, List.forall_mem_cons.mpr ⟨List.mem_of_getElem? (i := 24) rfl, List.forall_mem_cons.mpr ⟨List.mem_of_getElem? (i := 25) rfl, List.forall_mem_cons.mpr ⟨List.mem_of_getElem? (i := 26) rfl, List.forall_mem_cons.mpr ⟨List.mem_of_getElem? (i := 27) rfl, List.forall_mem_cons.mpr ⟨List.mem_of_getElem? (i := 28) rfl, fun _ h => nomatch h⟩⟩⟩⟩⟩⟩⟩⟩⟩⟩⟩⟩⟩⟩⟩⟩⟩⟩⟩⟩⟩⟩⟩⟩
set_option maxRecDepth 20000 in
theorem ggX0_giveOut_X0_givenOutAt_2 : ∀ w ∈ (wsX0_givenOutAt_r2 : List Cond), w ∈ wsX0_giveOut := List.forall_mem_cons.mpr ⟨List.mem_of_getElem? (i := 29) rfl, List.forall_mem_cons.mpr ⟨List.mem_of_getElem? (i := 30) rfl, List.forall_mem_cons.mpr ⟨List.mem_of_getElem? (i := 31) rfl, List.forall_mem_cons.mpr ⟨List.mem_of_getElem? (i := 32) rfl, List.forall_mem_cons.mpr ⟨List.mem_of_getElem? (i := 33) rfl, List.forall_mem_cons.mpr ⟨List.mem_of_getElem? (i := 34) rfl, List.forall_mem_cons.mpr ⟨List.mem_of_getElem? (i := 35) rfl, List.forall_mem_cons.mpr ⟨List.mem_of_getElem? (i := 36) rfl, List.forall_mem_cons.mpr ⟨List.mem_of_getElem? (i := 37) rfl, List.forall_mem_cons.mpr ⟨List.mem_of_getElem? (i := 38) rfl, List.forall_mem_cons.mpr ⟨List.mem_of_getElem? (i := 39) rfl, fun _ h => nomatch h⟩⟩⟩⟩⟩⟩⟩⟩⟩⟩⟩
set_option maxRecDepth 20000 in
theorem ggX0_giveOut_X0_givenOutAt_3 : ∀ w ∈ wsX00, w ∈ wsX0_giveOut := fun w h => List.mem_cons_of_mem _ (List.mem_append_left _ (List.mem_append_left _ (List.mem_append_right _ (h))))
set_option maxRecDepth 20000 in
theorem ggX0_giveOut_X0_givenOutAt_4 : ∀ w ∈ wsX10, w ∈ wsX0_giveOut := fun w h => List.mem_cons_of_mem _ (List.mem_append_left _ (List.mem_append_right _ (h)))
set_option maxRecDepth 20000 in
theorem ggX0_giveOut_X0_givenOutAt_5 : ∀ w ∈ wsX50, w ∈ wsX0_giveOut := fun w h => List.mem_cons_of_mem _ (List.mem_append_right _ (h))
theorem ggX0_giveOut_X0_givenOutAt_m : ∀ w ∈ wsX0_givenOutAt, w ∈ wsX0_giveOut := fun w h => (List.mem_cons.mp h).elim (fun e => by rw [e]; exact List.mem_of_getElem? (i := 12) rfl) (fun h => (List.mem_append.mp h).elim (fun h => (List.mem_append.mp h).elim (fun h => (List.mem_append.mp h).elim (fun h => (List.mem_append.mp h).elim (fun h => ggX0_giveOut_X0_givenOutAt_1 w h) (fun h => ggX0_giveOut_X0_givenOutAt_2 w h)) (fun h => ggX0_giveOut_X0_givenOutAt_3 w h)) (fun h => ggX0_giveOut_X0_givenOutAt_4 w h)) (fun h => ggX0_giveOut_X0_givenOutAt_5 w h))
set_option maxRecDepth 20000 in
theorem ggX0_giveOut_X0_givenOutAt : GoodIn wsX0_giveOut wsX0_givenOutAt := goodIn_sub ggX0_giveOut_X0_givenOutAt_m (by decide +kernel)
set_option maxRecDepth 20000 in
theorem ggX0_giveOut_X0_occupyUnit_1 : ∀ w ∈ (wsX0_occupyUnit_r1 : List Cond), w ∈ wsX0_giveOut := List.forall_mem_cons.mpr ⟨List.mem_of_getElem? (i := 18) rfl, List.forall_mem_cons.mpr ⟨List.mem_of_getElem? (i := 44) rfl, List.forall_mem_cons.mpr ⟨List.mem_of_getElem? (i := 45) rfl, List.forall_mem_cons.mpr ⟨List.mem_of_getElem? (i := 13) rfl, List.forall_mem_cons.mpr ⟨List.mem_of_getElem? (i := 46) rfl, List.forall_mem_cons.mpr ⟨List.mem_of_getElem? (i := 47) rfl, List.forall_mem_cons.mpr ⟨List.mem_of_getElem? (i := 2) rfl, List.forall_mem_cons.mpr ⟨List.mem_of_getElem? (i := 3) rfl, List.forall_mem_cons.mpr ⟨List.mem_of_getElem? (i := 4) rfl, List.forall_mem_cons.mpr ⟨List.mem_of_getElem? (i := 5) rfl, List.forall_mem_cons.mpr ⟨List.mem_of_getElem? (i := 6) rfl, List.forall_mem_cons.mpr ⟨List.mem_of_getElem? (i := 7) rfl, List.forall_mem_cons.mpr ⟨List.mem_of_getElem? (i := 48) rfl, List.forall_mem_cons.mpr ⟨List.mem_of_getElem? (i := 49) rfl, List.forall_mem_cons.mpr ⟨List.mem_of_getElem? (i := 50) rfl, List.forall_mem_cons.mpr ⟨List.mem_of_getElem? (i := 11) rfl, List.forall_mem_cons.mpr ⟨List.mem_of_getElem? (i := 51) rfl, List.forall_mem_cons.mpr ⟨List.mem_of_getElem? (i := 52) rfl, List.forall_mem_cons.mpr ⟨List.mem_of_getElem? (i := 53) rfl, List.forall_mem_cons.mpr ⟨List.mem_of_getElem? (i := 54) rfl, List.forall_mem_cons.mpr ⟨List.mem_of_getElem? (i := 55) rfl, List.forall_mem_cons.mpr ⟨List.mem_of_getElem? (i := 56) rfl, List.forall_mem_cons.mpr ⟨List.mem_of_getElem? (i := 32) rfl, List.forall_mem_cons.mpr ⟨List.mem_of_getElem? (i := 33) rfl, fun _ h => nomatch h⟩⟩⟩⟩⟩⟩⟩⟩⟩⟩⟩⟩⟩⟩⟩⟩⟩⟩⟩⟩⟩⟩⟩⟩
set_option maxRecDepth 20000 in
theorem ggX0_giveOut_X0_occupyUnit_2 : ∀ w ∈ (wsX0_occupyUnit_r2 : List Cond), w ∈ wsX0_giveOut := List.forall_mem_cons.mpr ⟨List.mem_of_getElem? (i := 34) rfl, List.forall_mem_cons.mpr ⟨List.mem_of_getElem? (i := 35) rfl, List.forall_mem_cons.mpr ⟨List.mem_of_getElem? (i := 36) rfl, List.forall_mem_cons.mpr ⟨List.mem_of_getElem? (i := 37) rfl, List.forall_mem_cons.mpr ⟨List.mem_of_getElem? (i := 38) rfl, List.forall_mem_cons.mpr ⟨List.mem_of_getElem? (i := 39) rfl, List.forall_mem_cons.mpr ⟨List.mem_of_getElem? (i := 24) rfl, List.forall_mem_cons.mpr ⟨List.mem_of_getElem? (i := 16) rfl, List.forall_mem_cons.mpr ⟨List.mem_of_getElem? (i := 25) rfl, List.forall_mem_cons.mpr ⟨List.mem_of_getElem? (i := 19) rfl, List.forall_mem_cons.mpr ⟨List.mem_of_getElem? (i := 20) rfl, List.forall_mem_cons.mpr ⟨List.mem_of_getElem? (i := 21) rfl, List.forall_mem_cons.mpr ⟨List.mem_of_getElem? (i := 22) rfl, List.forall_mem_cons.mpr ⟨List.mem_of_getElem? (i := 23) rfl, List.forall_mem_cons.mpr ⟨List.mem_of_getElem? (i := 26) rfl, List.forall_mem_cons.mpr ⟨List.mem_of_getElem? (i := 57) rfl, List.forall_mem_cons.mpr ⟨List.mem_of_getElem? (i := 58) rfl, List.forall_mem_cons.mpr ⟨List.mem_of_getElem? (i := 59) rfl, List.forall_mem_cons.mpr ⟨List.mem_of_getElem? (i := 60) rfl, List.forall_mem_cons.mpr ⟨List.mem_of_getElem? (i := 27) rfl, List.forall_mem_cons.mpr ⟨List.mem_of_getElem? (i := 28) rfl, List.forall_mem_cons.mpr ⟨List.mem_of_getElem? (i := 29) rfl, List.forall_mem_cons.mpr ⟨List.mem_of_getElem? (i := 30) rfl, List.forall_mem_cons.mpr ⟨List.mem_of_getElem? (i := 31) rfl, fun _ h => nomatch h⟩⟩⟩⟩⟩⟩⟩⟩⟩⟩⟩⟩⟩⟩⟩⟩⟩⟩⟩⟩⟩⟩⟩⟩
set_option maxRecDepth 20000 in
theorem ggX0_giveOut_X0_occupyUnit_3 : ∀ w ∈ (wsX0_occupyUnit_r3 : List Cond), w ∈ wsX0_giveOut := List.forall_mem_cons.mpr ⟨List.mem_of_getElem? (i := 61) rfl, List.forall_mem_cons.mpr ⟨List.mem_of_getElem? (i := 62) rfl, List.forall_mem_cons.mpr ⟨List.mem_of_getElem? (i := 63) rfl, List.forall_mem_cons.mpr ⟨List.mem_of_getElem? (i := 64) rfl, List.forall_mem_cons.mpr ⟨List.mem_of_getElem? (i := 65) rfl, List.forall_mem_cons.mpr ⟨List.mem_of_getElem? (i := 66) rfl, List.forall_mem_cons.mpr ⟨List.mem_of_getElem? (i := 67) rfl, List.forall_mem_cons.mpr ⟨List.mem_of_getElem? (i := 68) rfl, List.forall_mem_cons.mpr ⟨List.mem_of_getElem? (i := 69) rfl, List.forall_mem_cons.mpr ⟨List.mem_of_getElem? (i := 70) rfl, List.forall_mem_cons.mpr ⟨List.mem_of_getElem? (i := 71) rfl, List.forall_mem_cons.mpr ⟨List.mem_of_getElem? (i := 72) rfl, List.forall_mem_cons.mpr ⟨List.mem_of_getElem? (i := 73) rfl, List.forall_mem_cons.mpr ⟨List.mem_of_getElem? (i := 74) rfl, List.forall_mem_cons.mpr ⟨List.mem_of_getElem? (i := 75) rfl, List.forall_mem_cons.mpr ⟨List.mem_of_getElem? (i := 76) rfl, List.forall_mem_cons.mpr ⟨List.mem_of_getElem? (i := 77) rfl, List.forall_mem_cons.mpr ⟨List.mem_of_getElem? (i := 78) rfl, List.forall_mem_cons.mpr ⟨List.mem_of_getElem? (i := 79) rfl, List.forall_mem_cons.mpr ⟨List.mem_of_getElem? (i := 80) rfl, List.forall_mem_cons.mpr ⟨List.mem_of_getElem? (i := 81) rfl, List.forall_mem_cons.mpr ⟨List.mem_of_getElem? (i := 82) rfl, List.forall_mem_cons.mpr ⟨List.mem_of_getElem? (i := 83) rfl, fun _ h => nomatch h⟩⟩⟩⟩⟩⟩⟩⟩⟩⟩⟩⟩⟩⟩⟩⟩⟩⟩⟩⟩⟩⟩⟩
set_option maxRecDepth 20000 in
theorem ggX0_giveOut_X0_occupyUnit_4 : ∀ w ∈ wsX00, w ∈ wsX0_giveOut := fun w h => List.mem_cons_of_mem _ (List.mem_append_left _ (List.mem_append_left _ (List.mem_append_right _ (h))))
set_option maxRecDepth 20000 in
theorem ggX0_giveOut_X0_occupyUnit_5 : ∀ w ∈ wsX10, w ∈ wsX0_giveOut := fun w h => List.mem_cons_of_mem _ (List.mem_append_left _ (List.mem_append_right _ (h)))
set_option maxRecDepth 20000 in
theorem ggX0_giveOut_X0_occupyUnit_6 : ∀ w ∈ wsX50, w ∈ wsX0_giveOut := fun w h => List.mem_cons_of_mem _ (List.mem_append_right _ (h))
theorem ggX0_giveOut_X0_occupyUnit_m : ∀ w ∈ wsX0_occupyUnit, w ∈ wsX0_giveOut := fun w h => (List.mem_cons.mp h).elim (fun e => by rw [e]; exact List.mem_of_getElem? (i := 43) rfl) (fun h => (List.mem_append.mp h).elim (fun h => (List.mem_append.mp h).elim (fun h => (List.mem_append.mp h).elim (fun h => (List.mem_append.mp h).elim (fun h => ggX0_giveOut_X0_occupyUnit_1 w h) (fun h => (List.mem_append.mp h).elim (fun h => ggX0_giveOut_X0_occupyUnit_2 w h) (fun h => ggX0_giveOut_X0_occupyUnit_3 w h))) (fun h => ggX0_giveOut_X0_occupyUnit_4 w h)) (fun h => ggX0_giveOut_X0_occupyUnit_5 w h)) (fun h => ggX0_giveOut_X0_occupyUnit_6 w h))
set_option maxRecDepth 20000 in
theorem ggX0_giveOut_X0_occupyUnit : GoodIn wsX0_giveOut wsX0_occupyUnit := goodIn_sub ggX0_giveOut_X0_occupyUnit_m (by decide +kernel)
set_option maxRecDepth 20000 in
theorem ggX0_giveOut_X0_reach_1 : ∀ w ∈ ([.fieldLink RX0 45 "ScoreboardCore$Board" "last" "I", .methodLink RX0 118 Lib.Math.max.name, .static Lib.Math.max.name, .initialized "java/lang/Math", .code Lib.Math.max.name Lib.Math.max.code 2 (some .int)] : List Cond), w ∈ wsX0_giveOut := List.forall_mem_cons.mpr ⟨List.mem_of_getElem? (i := 79) rfl, List.forall_mem_cons.mpr ⟨List.mem_of_getElem? (i := 23) rfl, List.forall_mem_cons.mpr ⟨List.mem_of_getElem? (i := 24) rfl, List.forall_mem_cons.mpr ⟨List.mem_of_getElem? (i := 16) rfl, List.forall_mem_cons.mpr ⟨List.mem_of_getElem? (i := 25) rfl, fun _ h => nomatch h⟩⟩⟩⟩⟩
set_option maxRecDepth 20000 in
theorem ggX0_giveOut_X0_reach_2 : ∀ w ∈ wsX00, w ∈ wsX0_giveOut := fun w h => List.mem_cons_of_mem _ (List.mem_append_left _ (List.mem_append_left _ (List.mem_append_right _ (h))))
theorem ggX0_giveOut_X0_reach_m : ∀ w ∈ wsX0_reach, w ∈ wsX0_giveOut := fun w h => (List.mem_cons.mp h).elim (fun e => by rw [e]; exact List.mem_of_getElem? (i := 78) rfl) (fun h => (List.mem_append.mp h).elim (fun h => ggX0_giveOut_X0_reach_1 w h) (fun h => ggX0_giveOut_X0_reach_2 w h))
set_option maxRecDepth 20000 in
theorem ggX0_giveOut_X0_reach : GoodIn wsX0_giveOut wsX0_reach := goodIn_sub ggX0_giveOut_X0_reach_m (by decide +kernel)
set_option maxRecDepth 20000 in
theorem ggX0_giveOut_X1_parcels_1 : ∀ w ∈ ([.fieldLink RX1 25 "ScoreboardCore$Instruction" "op" "I", .methodLink RX1 57 yX1_isJump, .instanceMethod yX1_isJump, .selects RX1 yX1_isJump yX1_isJump, .initialized RX1, .code yX1_isJump cX1_isJump 1 (some .boolean)] : List Cond), w ∈ wsX0_giveOut := List.forall_mem_cons.mpr ⟨List.mem_of_getElem? (i := 65) rfl, List.forall_mem_cons.mpr ⟨List.mem_of_getElem? (i := 88) rfl, List.forall_mem_cons.mpr ⟨List.mem_of_getElem? (i := 89) rfl, List.forall_mem_cons.mpr ⟨List.mem_of_getElem? (i := 90) rfl, List.forall_mem_cons.mpr ⟨List.mem_of_getElem? (i := 5) rfl, List.forall_mem_cons.mpr ⟨List.mem_of_getElem? (i := 91) rfl, fun _ h => nomatch h⟩⟩⟩⟩⟩⟩
set_option maxRecDepth 20000 in
theorem ggX0_giveOut_X1_parcels_2 : ∀ w ∈ wsX10, w ∈ wsX0_giveOut := fun w h => List.mem_cons_of_mem _ (List.mem_append_left _ (List.mem_append_right _ (h)))
theorem ggX0_giveOut_X1_parcels_m : ∀ w ∈ wsX1_parcels, w ∈ wsX0_giveOut := fun w h => (List.mem_cons.mp h).elim (fun e => by rw [e]; exact List.mem_of_getElem? (i := 87) rfl) (fun h => (List.mem_append.mp h).elim (fun h => ggX0_giveOut_X1_parcels_1 w h) (fun h => ggX0_giveOut_X1_parcels_2 w h))
set_option maxRecDepth 20000 in
theorem ggX0_giveOut_X1_parcels : GoodIn wsX0_giveOut wsX1_parcels := goodIn_sub ggX0_giveOut_X1_parcels_m (by decide +kernel)
theorem dX0_giveOut_0 : decode cX0_giveOut 0 = .ok (.aload_n 0, 1) := by decide +kernel
theorem dX0_giveOut_1 : decode cX0_giveOut 1 = .ok (.getfield 42, 3) := by decide +kernel
theorem dX0_giveOut_4 : decode cX0_giveOut 4 = .ok (.istore_n 2, 1) := by decide +kernel
theorem dX0_giveOut_5 : decode cX0_giveOut 5 = .ok (.aload_n 1, 1) := by decide +kernel
theorem dX0_giveOut_6 : decode cX0_giveOut 6 = .ok (.invokevirtual 48, 3) := by decide +kernel
theorem dX0_giveOut_9 : decode cX0_giveOut 9 = .ok (.iconst (-1), 1) := by decide +kernel
theorem dX0_giveOut_10 : decode cX0_giveOut 10 = .ok (.if_icmp .eq 15, 3) := by decide +kernel
theorem dX0_giveOut_13 : decode cX0_giveOut 13 = .ok (.aload_n 0, 1) := by decide +kernel
theorem dX0_giveOut_14 : decode cX0_giveOut 14 = .ok (.aload_n 1, 1) := by decide +kernel
theorem dX0_giveOut_15 : decode cX0_giveOut 15 = .ok (.invokevirtual 54, 3) := by decide +kernel
theorem dX0_giveOut_18 : decode cX0_giveOut 18 = .ok (.istore_n 2, 1) := by decide +kernel
theorem dX0_giveOut_19 : decode cX0_giveOut 19 = .ok (.aload_n 0, 1) := by decide +kernel
theorem dX0_giveOut_20 : decode cX0_giveOut 20 = .ok (.aload_n 1, 1) := by decide +kernel
theorem dX0_giveOut_21 : decode cX0_giveOut 21 = .ok (.iload_n 2, 1) := by decide +kernel
theorem dX0_giveOut_22 : decode cX0_giveOut 22 = .ok (.invokevirtual 58, 3) := by decide +kernel
theorem dX0_giveOut_25 : decode cX0_giveOut 25 = .ok (.aload_n 0, 1) := by decide +kernel
theorem dX0_giveOut_26 : decode cX0_giveOut 26 = .ok (.iload_n 2, 1) := by decide +kernel
theorem dX0_giveOut_27 : decode cX0_giveOut 27 = .ok (.invokevirtual 62, 3) := by decide +kernel
theorem dX0_giveOut_30 : decode cX0_giveOut 30 = .ok (.aload_n 0, 1) := by decide +kernel
theorem dX0_giveOut_31 : decode cX0_giveOut 31 = .ok (.iload_n 2, 1) := by decide +kernel
theorem dX0_giveOut_32 : decode cX0_giveOut 32 = .ok (.aload_n 1, 1) := by decide +kernel
theorem dX0_giveOut_33 : decode cX0_giveOut 33 = .ok (.invokevirtual 66, 3) := by decide +kernel
theorem dX0_giveOut_36 : decode cX0_giveOut 36 = .ok (.iadd, 1) := by decide +kernel
theorem dX0_giveOut_37 : decode cX0_giveOut 37 = .ok (.putfield 42, 3) := by decide +kernel
theorem dX0_giveOut_40 : decode cX0_giveOut 40 = .ok (.return_, 1) := by decide +kernel
set_option maxRecDepth 20000 in
theorem ggX0_doJump_X1_needs_1 : ∀ w ∈ ([.fieldLink RX1 14 "ScoreboardCore$Instruction" "needs" "LScoreboardCore$RegisterList;"] : List Cond), w ∈ wsX0_doJump := List.forall_mem_cons.mpr ⟨List.mem_of_getElem? (i := 10) rfl, fun _ h => nomatch h⟩
set_option maxRecDepth 20000 in
theorem ggX0_doJump_X1_needs_2 : ∀ w ∈ wsX10, w ∈ wsX0_doJump := fun w h => List.mem_cons_of_mem _ (List.mem_append_left _ (List.mem_append_right _ (h)))
theorem ggX0_doJump_X1_needs_m : ∀ w ∈ wsX1_needs, w ∈ wsX0_doJump := fun w h => (List.mem_cons.mp h).elim (fun e => by rw [e]; exact List.mem_of_getElem? (i := 9) rfl) (fun h => (List.mem_append.mp h).elim (fun h => ggX0_doJump_X1_needs_1 w h) (fun h => ggX0_doJump_X1_needs_2 w h))
set_option maxRecDepth 20000 in
theorem ggX0_doJump_X1_needs : GoodIn wsX0_doJump wsX1_needs := goodIn_sub ggX0_doJump_X1_needs_m (by decide +kernel)
set_option maxRecDepth 20000 in
theorem ggX0_doJump_X5_latestIn_1 : ∀ w ∈ ([.fieldLink RX5 15 "ScoreboardCore$RegisterList" "size" "I", .fieldLink RX5 11 "ScoreboardCore$RegisterList" "numbers" "[I", .methodLink RX5 23 Lib.Math.max.name, .static Lib.Math.max.name, .initialized "java/lang/Math", .code Lib.Math.max.name Lib.Math.max.code 2 (some .int)] : List Cond), w ∈ wsX0_doJump := List.forall_mem_cons.mpr ⟨List.mem_of_getElem? (i := 16) rfl, List.forall_mem_cons.mpr ⟨List.mem_of_getElem? (i := 17) rfl, List.forall_mem_cons.mpr ⟨List.mem_of_getElem? (i := 18) rfl, List.forall_mem_cons.mpr ⟨List.mem_of_getElem? (i := 19) rfl, List.forall_mem_cons.mpr ⟨List.mem_of_getElem? (i := 20) rfl, List.forall_mem_cons.mpr ⟨List.mem_of_getElem? (i := 21) rfl, fun _ h => nomatch h⟩⟩⟩⟩⟩⟩
set_option maxRecDepth 20000 in
theorem ggX0_doJump_X5_latestIn_2 : ∀ w ∈ wsX50, w ∈ wsX0_doJump := fun w h => List.mem_cons_of_mem _ (List.mem_append_right _ (h))
theorem ggX0_doJump_X5_latestIn_m : ∀ w ∈ wsX5_latestIn, w ∈ wsX0_doJump := fun w h => (List.mem_cons.mp h).elim (fun e => by rw [e]; exact List.mem_of_getElem? (i := 15) rfl) (fun h => (List.mem_append.mp h).elim (fun h => ggX0_doJump_X5_latestIn_1 w h) (fun h => ggX0_doJump_X5_latestIn_2 w h))
set_option maxRecDepth 20000 in
theorem ggX0_doJump_X5_latestIn : GoodIn wsX0_doJump wsX5_latestIn := goodIn_sub ggX0_doJump_X5_latestIn_m (by decide +kernel)
set_option maxRecDepth 20000 in
theorem ggX0_doJump_X1_op_1 : ∀ w ∈ ([.fieldLink RX1 25 "ScoreboardCore$Instruction" "op" "I"] : List Cond), w ∈ wsX0_doJump := List.forall_mem_cons.mpr ⟨List.mem_of_getElem? (i := 26) rfl, fun _ h => nomatch h⟩
set_option maxRecDepth 20000 in
theorem ggX0_doJump_X1_op_2 : ∀ w ∈ wsX10, w ∈ wsX0_doJump := fun w h => List.mem_cons_of_mem _ (List.mem_append_left _ (List.mem_append_right _ (h)))
theorem ggX0_doJump_X1_op_m : ∀ w ∈ wsX1_op, w ∈ wsX0_doJump := fun w h => (List.mem_cons.mp h).elim (fun e => by rw [e]; exact List.mem_of_getElem? (i := 25) rfl) (fun h => (List.mem_append.mp h).elim (fun h => ggX0_doJump_X1_op_1 w h) (fun h => ggX0_doJump_X1_op_2 w h))
set_option maxRecDepth 20000 in
theorem ggX0_doJump_X1_op : GoodIn wsX0_doJump wsX1_op := goodIn_sub ggX0_doJump_X1_op_m (by decide +kernel)
set_option maxRecDepth 20000 in
theorem ggX0_doJump_X0_waitFor_1 : ∀ w ∈ ([.methodLink RX0 118 Lib.Math.max.name, .static Lib.Math.max.name, .initialized "java/lang/Math", .code Lib.Math.max.name Lib.Math.max.code 2 (some .int), .fieldLink RX0 15 "ScoreboardCore$Board" "waitCounts" "[J"] : List Cond), w ∈ wsX0_doJump := List.forall_mem_cons.mpr ⟨List.mem_of_getElem? (i := 32) rfl, List.forall_mem_cons.mpr ⟨List.mem_of_getElem? (i := 19) rfl, List.forall_mem_cons.mpr ⟨List.mem_of_getElem? (i := 20) rfl, List.forall_mem_cons.mpr ⟨List.mem_of_getElem? (i := 21) rfl, List.forall_mem_cons.mpr ⟨List.mem_of_getElem? (i := 33) rfl, fun _ h => nomatch h⟩⟩⟩⟩⟩
set_option maxRecDepth 20000 in
theorem ggX0_doJump_X0_waitFor_2 : ∀ w ∈ wsX00, w ∈ wsX0_doJump := fun w h => List.mem_cons_of_mem _ (List.mem_append_left _ (List.mem_append_left _ (List.mem_append_right _ (h))))
theorem ggX0_doJump_X0_waitFor_m : ∀ w ∈ wsX0_waitFor, w ∈ wsX0_doJump := fun w h => (List.mem_cons.mp h).elim (fun e => by rw [e]; exact List.mem_of_getElem? (i := 31) rfl) (fun h => (List.mem_append.mp h).elim (fun h => ggX0_doJump_X0_waitFor_1 w h) (fun h => ggX0_doJump_X0_waitFor_2 w h))
set_option maxRecDepth 20000 in
theorem ggX0_doJump_X0_waitFor : GoodIn wsX0_doJump wsX0_waitFor := goodIn_sub ggX0_doJump_X0_waitFor_m (by decide +kernel)
set_option maxRecDepth 20000 in
theorem ggX0_doJump_X0_reach_1 : ∀ w ∈ ([.fieldLink RX0 45 "ScoreboardCore$Board" "last" "I", .methodLink RX0 118 Lib.Math.max.name, .static Lib.Math.max.name, .initialized "java/lang/Math", .code Lib.Math.max.name Lib.Math.max.code 2 (some .int)] : List Cond), w ∈ wsX0_doJump := List.forall_mem_cons.mpr ⟨List.mem_of_getElem? (i := 38) rfl, List.forall_mem_cons.mpr ⟨List.mem_of_getElem? (i := 32) rfl, List.forall_mem_cons.mpr ⟨List.mem_of_getElem? (i := 19) rfl, List.forall_mem_cons.mpr ⟨List.mem_of_getElem? (i := 20) rfl, List.forall_mem_cons.mpr ⟨List.mem_of_getElem? (i := 21) rfl, fun _ h => nomatch h⟩⟩⟩⟩⟩
set_option maxRecDepth 20000 in
theorem ggX0_doJump_X0_reach_2 : ∀ w ∈ wsX00, w ∈ wsX0_doJump := fun w h => List.mem_cons_of_mem _ (List.mem_append_left _ (List.mem_append_left _ (List.mem_append_right _ (h))))
theorem ggX0_doJump_X0_reach_m : ∀ w ∈ wsX0_reach, w ∈ wsX0_doJump := fun w h => (List.mem_cons.mp h).elim (fun e => by rw [e]; exact List.mem_of_getElem? (i := 37) rfl) (fun h => (List.mem_append.mp h).elim (fun h => ggX0_doJump_X0_reach_1 w h) (fun h => ggX0_doJump_X0_reach_2 w h))
set_option maxRecDepth 20000 in
theorem ggX0_doJump_X0_reach : GoodIn wsX0_doJump wsX0_reach := goodIn_sub ggX0_doJump_X0_reach_m (by decide +kernel)
theorem dX0_doJump_0 : decode cX0_doJump 0 = .ok (.aload_n 1, 1) := by decide +kernel
theorem dX0_doJump_1 : decode cX0_doJump 1 = .ok (.invokevirtual 69, 3) := by decide +kernel
theorem dX0_doJump_4 : decode cX0_doJump 4 = .ok (.aload_n 0, 1) := by decide +kernel
theorem dX0_doJump_5 : decode cX0_doJump 5 = .ok (.getfield 22, 3) := by decide +kernel
theorem dX0_doJump_8 : decode cX0_doJump 8 = .ok (.invokevirtual 73, 3) := by decide +kernel
theorem dX0_doJump_11 : decode cX0_doJump 11 = .ok (.istore_n 3, 1) := by decide +kernel
theorem dX0_doJump_12 : decode cX0_doJump 12 = .ok (.aload_n 1, 1) := by decide +kernel
theorem dX0_doJump_13 : decode cX0_doJump 13 = .ok (.invokevirtual 79, 3) := by decide +kernel
theorem dX0_doJump_16 : decode cX0_doJump 16 = .ok (.iconst 1, 1) := by decide +kernel
theorem dX0_doJump_17 : decode cX0_doJump 17 = .ok (.if_icmp .ne 10, 3) := by decide +kernel
theorem dX0_doJump_20 : decode cX0_doJump 20 = .ok (.aload_n 0, 1) := by decide +kernel
theorem dX0_doJump_21 : decode cX0_doJump 21 = .ok (.getfield 38, 3) := by decide +kernel
theorem dX0_doJump_24 : decode cX0_doJump 24 = .ok (.iconst 1, 1) := by decide +kernel
theorem dX0_doJump_25 : decode cX0_doJump 25 = .ok (.iadd, 1) := by decide +kernel
theorem dX0_doJump_26 : decode cX0_doJump 26 = .ok (.istore_n 3, 1) := by decide +kernel
theorem dX0_doJump_27 : decode cX0_doJump 27 = .ok (.aload_n 0, 1) := by decide +kernel
theorem dX0_doJump_28 : decode cX0_doJump 28 = .ok (.aload_n 0, 1) := by decide +kernel
theorem dX0_doJump_29 : decode cX0_doJump 29 = .ok (.getfield 42, 3) := by decide +kernel
theorem dX0_doJump_32 : decode cX0_doJump 32 = .ok (.iload_n 3, 1) := by decide +kernel
theorem dX0_doJump_33 : decode cX0_doJump 33 = .ok (.iconst 2, 1) := by decide +kernel
theorem dX0_doJump_34 : decode cX0_doJump 34 = .ok (.invokevirtual 82, 3) := by decide +kernel
theorem dX0_doJump_37 : decode cX0_doJump 37 = .ok (.istore 4, 2) := by decide +kernel
theorem dX0_doJump_39 : decode cX0_doJump 39 = .ok (.aload_n 0, 1) := by decide +kernel
theorem dX0_doJump_40 : decode cX0_doJump 40 = .ok (.iload 4, 2) := by decide +kernel
theorem dX0_doJump_42 : decode cX0_doJump 42 = .ok (.invokevirtual 62, 3) := by decide +kernel
theorem dX0_doJump_45 : decode cX0_doJump 45 = .ok (.aload_n 0, 1) := by decide +kernel
theorem dX0_doJump_46 : decode cX0_doJump 46 = .ok (.getfield 11, 3) := by decide +kernel
theorem dX0_doJump_49 : decode cX0_doJump 49 = .ok (.bipush 6, 2) := by decide +kernel
theorem dX0_doJump_51 : decode cX0_doJump 51 = .ok (.dup2, 1) := by decide +kernel
theorem dX0_doJump_52 : decode cX0_doJump 52 = .ok (.iaload, 1) := by decide +kernel
theorem dX0_doJump_53 : decode cX0_doJump 53 = .ok (.iconst 1, 1) := by decide +kernel
theorem dX0_doJump_54 : decode cX0_doJump 54 = .ok (.iadd, 1) := by decide +kernel
theorem dX0_doJump_55 : decode cX0_doJump 55 = .ok (.iastore, 1) := by decide +kernel
theorem dX0_doJump_56 : decode cX0_doJump 56 = .ok (.iload_n 2, 1) := by decide +kernel
theorem dX0_doJump_57 : decode cX0_doJump 57 = .ok (.ifCond .eq 14, 3) := by decide +kernel
theorem dX0_doJump_60 : decode cX0_doJump 60 = .ok (.aload_n 0, 1) := by decide +kernel
theorem dX0_doJump_61 : decode cX0_doJump 61 = .ok (.getfield 11, 3) := by decide +kernel
theorem dX0_doJump_64 : decode cX0_doJump 64 = .ok (.bipush 7, 2) := by decide +kernel
theorem dX0_doJump_66 : decode cX0_doJump 66 = .ok (.dup2, 1) := by decide +kernel
theorem dX0_doJump_67 : decode cX0_doJump 67 = .ok (.iaload, 1) := by decide +kernel
theorem dX0_doJump_68 : decode cX0_doJump 68 = .ok (.iconst 1, 1) := by decide +kernel
theorem dX0_doJump_69 : decode cX0_doJump 69 = .ok (.iadd, 1) := by decide +kernel
theorem dX0_doJump_70 : decode cX0_doJump 70 = .ok (.iastore, 1) := by decide +kernel
theorem dX0_doJump_71 : decode cX0_doJump 71 = .ok (.aload_n 0, 1) := by decide +kernel
theorem dX0_doJump_72 : decode cX0_doJump 72 = .ok (.iload 4, 2) := by decide +kernel
theorem dX0_doJump_74 : decode cX0_doJump 74 = .ok (.iload_n 2, 1) := by decide +kernel
theorem dX0_doJump_75 : decode cX0_doJump 75 = .ok (.ifCond .eq 8, 3) := by decide +kernel
theorem dX0_doJump_78 : decode cX0_doJump 78 = .ok (.bipush 8, 2) := by decide +kernel
theorem dX0_doJump_80 : decode cX0_doJump 80 = .ok (.goto 4, 3) := by decide +kernel
theorem dX0_doJump_83 : decode cX0_doJump 83 = .ok (.iconst 4, 1) := by decide +kernel
theorem dX0_doJump_84 : decode cX0_doJump 84 = .ok (.iadd, 1) := by decide +kernel
theorem dX0_doJump_85 : decode cX0_doJump 85 = .ok (.putfield 42, 3) := by decide +kernel
theorem dX0_doJump_88 : decode cX0_doJump 88 = .ok (.return_, 1) := by decide +kernel
set_option maxRecDepth 20000 in
theorem ggX0_givenOutAt_X1_unit_1 : ∀ w ∈ ([.fieldLink RX1 45 "ScoreboardCore$Instruction" "unit" "I"] : List Cond), w ∈ wsX0_givenOutAt := List.forall_mem_cons.mpr ⟨List.mem_of_getElem? (i := 13) rfl, fun _ h => nomatch h⟩
set_option maxRecDepth 20000 in
theorem ggX0_givenOutAt_X1_unit_2 : ∀ w ∈ wsX10, w ∈ wsX0_givenOutAt := fun w h => List.mem_cons_of_mem _ (List.mem_append_left _ (List.mem_append_right _ (h)))
theorem ggX0_givenOutAt_X1_unit_m : ∀ w ∈ wsX1_unit, w ∈ wsX0_givenOutAt := fun w h => (List.mem_cons.mp h).elim (fun e => by rw [e]; exact List.mem_of_getElem? (i := 12) rfl) (fun h => (List.mem_append.mp h).elim (fun h => ggX0_givenOutAt_X1_unit_1 w h) (fun h => ggX0_givenOutAt_X1_unit_2 w h))
set_option maxRecDepth 20000 in
theorem ggX0_givenOutAt_X1_unit : GoodIn wsX0_givenOutAt wsX1_unit := goodIn_sub ggX0_givenOutAt_X1_unit_m (by decide +kernel)
set_option maxRecDepth 20000 in
theorem ggX0_givenOutAt_X0_waitFor_1 : ∀ w ∈ ([.methodLink RX0 118 Lib.Math.max.name, .static Lib.Math.max.name, .initialized "java/lang/Math", .code Lib.Math.max.name Lib.Math.max.code 2 (some .int), .fieldLink RX0 15 "ScoreboardCore$Board" "waitCounts" "[J"] : List Cond), w ∈ wsX0_givenOutAt := List.forall_mem_cons.mpr ⟨List.mem_of_getElem? (i := 19) rfl, List.forall_mem_cons.mpr ⟨List.mem_of_getElem? (i := 20) rfl, List.forall_mem_cons.mpr ⟨List.mem_of_getElem? (i := 4) rfl, List.forall_mem_cons.mpr ⟨List.mem_of_getElem? (i := 21) rfl, List.forall_mem_cons.mpr ⟨List.mem_of_getElem? (i := 22) rfl, fun _ h => nomatch h⟩⟩⟩⟩⟩
set_option maxRecDepth 20000 in
theorem ggX0_givenOutAt_X0_waitFor_2 : ∀ w ∈ wsX00, w ∈ wsX0_givenOutAt := fun w h => List.mem_cons_of_mem _ (List.mem_append_left _ (List.mem_append_left _ (List.mem_append_right _ (h))))
theorem ggX0_givenOutAt_X0_waitFor_m : ∀ w ∈ wsX0_waitFor, w ∈ wsX0_givenOutAt := fun w h => (List.mem_cons.mp h).elim (fun e => by rw [e]; exact List.mem_of_getElem? (i := 18) rfl) (fun h => (List.mem_append.mp h).elim (fun h => ggX0_givenOutAt_X0_waitFor_1 w h) (fun h => ggX0_givenOutAt_X0_waitFor_2 w h))
set_option maxRecDepth 20000 in
theorem ggX0_givenOutAt_X0_waitFor : GoodIn wsX0_givenOutAt wsX0_waitFor := goodIn_sub ggX0_givenOutAt_X0_waitFor_m (by decide +kernel)
set_option maxRecDepth 20000 in
theorem ggX0_givenOutAt_X1_results_1 : ∀ w ∈ ([.fieldLink RX1 18 "ScoreboardCore$Instruction" "results" "LScoreboardCore$RegisterList;"] : List Cond), w ∈ wsX0_givenOutAt := List.forall_mem_cons.mpr ⟨List.mem_of_getElem? (i := 27) rfl, fun _ h => nomatch h⟩
set_option maxRecDepth 20000 in
theorem ggX0_givenOutAt_X1_results_2 : ∀ w ∈ wsX10, w ∈ wsX0_givenOutAt := fun w h => List.mem_cons_of_mem _ (List.mem_append_left _ (List.mem_append_right _ (h)))
theorem ggX0_givenOutAt_X1_results_m : ∀ w ∈ wsX1_results, w ∈ wsX0_givenOutAt := fun w h => (List.mem_cons.mp h).elim (fun e => by rw [e]; exact List.mem_of_getElem? (i := 26) rfl) (fun h => (List.mem_append.mp h).elim (fun h => ggX0_givenOutAt_X1_results_1 w h) (fun h => ggX0_givenOutAt_X1_results_2 w h))
set_option maxRecDepth 20000 in
theorem ggX0_givenOutAt_X1_results : GoodIn wsX0_givenOutAt wsX1_results := goodIn_sub ggX0_givenOutAt_X1_results_m (by decide +kernel)
set_option maxRecDepth 20000 in
theorem ggX0_givenOutAt_X5_latestIn_1 : ∀ w ∈ ([.fieldLink RX5 15 "ScoreboardCore$RegisterList" "size" "I", .fieldLink RX5 11 "ScoreboardCore$RegisterList" "numbers" "[I", .methodLink RX5 23 Lib.Math.max.name, .static Lib.Math.max.name, .initialized "java/lang/Math", .code Lib.Math.max.name Lib.Math.max.code 2 (some .int)] : List Cond), w ∈ wsX0_givenOutAt := List.forall_mem_cons.mpr ⟨List.mem_of_getElem? (i := 33) rfl, List.forall_mem_cons.mpr ⟨List.mem_of_getElem? (i := 34) rfl, List.forall_mem_cons.mpr ⟨List.mem_of_getElem? (i := 35) rfl, List.forall_mem_cons.mpr ⟨List.mem_of_getElem? (i := 20) rfl, List.forall_mem_cons.mpr ⟨List.mem_of_getElem? (i := 4) rfl, List.forall_mem_cons.mpr ⟨List.mem_of_getElem? (i := 21) rfl, fun _ h => nomatch h⟩⟩⟩⟩⟩⟩
set_option maxRecDepth 20000 in
theorem ggX0_givenOutAt_X5_latestIn_2 : ∀ w ∈ wsX50, w ∈ wsX0_givenOutAt := fun w h => List.mem_cons_of_mem _ (List.mem_append_right _ (h))
theorem ggX0_givenOutAt_X5_latestIn_m : ∀ w ∈ wsX5_latestIn, w ∈ wsX0_givenOutAt := fun w h => (List.mem_cons.mp h).elim (fun e => by rw [e]; exact List.mem_of_getElem? (i := 32) rfl) (fun h => (List.mem_append.mp h).elim (fun h => ggX0_givenOutAt_X5_latestIn_1 w h) (fun h => ggX0_givenOutAt_X5_latestIn_2 w h))
set_option maxRecDepth 20000 in
theorem ggX0_givenOutAt_X5_latestIn : GoodIn wsX0_givenOutAt wsX5_latestIn := goodIn_sub ggX0_givenOutAt_X5_latestIn_m (by decide +kernel)
theorem dX0_givenOutAt_0 : decode cX0_givenOutAt 0 = .ok (.aload_n 1, 1) := by decide +kernel
theorem dX0_givenOutAt_1 : decode cX0_givenOutAt 1 = .ok (.invokevirtual 48, 3) := by decide +kernel
theorem dX0_givenOutAt_4 : decode cX0_givenOutAt 4 = .ok (.istore_n 2, 1) := by decide +kernel
theorem dX0_givenOutAt_5 : decode cX0_givenOutAt 5 = .ok (.aload_n 0, 1) := by decide +kernel
theorem dX0_givenOutAt_6 : decode cX0_givenOutAt 6 = .ok (.getfield 19, 3) := by decide +kernel
theorem dX0_givenOutAt_9 : decode cX0_givenOutAt 9 = .ok (.iload_n 2, 1) := by decide +kernel
theorem dX0_givenOutAt_10 : decode cX0_givenOutAt 10 = .ok (.iaload, 1) := by decide +kernel
theorem dX0_givenOutAt_11 : decode cX0_givenOutAt 11 = .ok (.istore_n 3, 1) := by decide +kernel
theorem dX0_givenOutAt_12 : decode cX0_givenOutAt 12 = .ok (.iload_n 2, 1) := by decide +kernel
theorem dX0_givenOutAt_13 : decode cX0_givenOutAt 13 = .ok (.iconst 4, 1) := by decide +kernel
theorem dX0_givenOutAt_14 : decode cX0_givenOutAt 14 = .ok (.if_icmp .ne 14, 3) := by decide +kernel
theorem dX0_givenOutAt_17 : decode cX0_givenOutAt 17 = .ok (.iload_n 3, 1) := by decide +kernel
theorem dX0_givenOutAt_18 : decode cX0_givenOutAt 18 = .ok (.aload_n 0, 1) := by decide +kernel
theorem dX0_givenOutAt_19 : decode cX0_givenOutAt 19 = .ok (.getfield 19, 3) := by decide +kernel
theorem dX0_givenOutAt_22 : decode cX0_givenOutAt 22 = .ok (.iconst 5, 1) := by decide +kernel
theorem dX0_givenOutAt_23 : decode cX0_givenOutAt 23 = .ok (.iaload, 1) := by decide +kernel
theorem dX0_givenOutAt_24 : decode cX0_givenOutAt 24 = .ok (.invokestatic 86, 3) := by decide +kernel
theorem dX0_givenOutAt_27 : decode cX0_givenOutAt 27 = .ok (.istore_n 3, 1) := by decide +kernel
theorem dX0_givenOutAt_28 : decode cX0_givenOutAt 28 = .ok (.aload_n 0, 1) := by decide +kernel
theorem dX0_givenOutAt_29 : decode cX0_givenOutAt 29 = .ok (.aload_n 0, 1) := by decide +kernel
theorem dX0_givenOutAt_30 : decode cX0_givenOutAt 30 = .ok (.getfield 42, 3) := by decide +kernel
theorem dX0_givenOutAt_33 : decode cX0_givenOutAt 33 = .ok (.iload_n 3, 1) := by decide +kernel
theorem dX0_givenOutAt_34 : decode cX0_givenOutAt 34 = .ok (.iconst 0, 1) := by decide +kernel
theorem dX0_givenOutAt_35 : decode cX0_givenOutAt 35 = .ok (.invokevirtual 82, 3) := by decide +kernel
theorem dX0_givenOutAt_38 : decode cX0_givenOutAt 38 = .ok (.istore 4, 2) := by decide +kernel
theorem dX0_givenOutAt_40 : decode cX0_givenOutAt 40 = .ok (.aload_n 0, 1) := by decide +kernel
theorem dX0_givenOutAt_41 : decode cX0_givenOutAt 41 = .ok (.iload 4, 2) := by decide +kernel
theorem dX0_givenOutAt_43 : decode cX0_givenOutAt 43 = .ok (.aload_n 1, 1) := by decide +kernel
theorem dX0_givenOutAt_44 : decode cX0_givenOutAt 44 = .ok (.invokevirtual 92, 3) := by decide +kernel
theorem dX0_givenOutAt_47 : decode cX0_givenOutAt 47 = .ok (.aload_n 0, 1) := by decide +kernel
theorem dX0_givenOutAt_48 : decode cX0_givenOutAt 48 = .ok (.getfield 22, 3) := by decide +kernel
theorem dX0_givenOutAt_51 : decode cX0_givenOutAt 51 = .ok (.invokevirtual 73, 3) := by decide +kernel
theorem dX0_givenOutAt_54 : decode cX0_givenOutAt 54 = .ok (.iconst 1, 1) := by decide +kernel
theorem dX0_givenOutAt_55 : decode cX0_givenOutAt 55 = .ok (.invokevirtual 82, 3) := by decide +kernel
theorem dX0_givenOutAt_58 : decode cX0_givenOutAt 58 = .ok (.ireturn, 1) := by decide +kernel
set_option maxRecDepth 20000 in
theorem ggX0_occupyUnit_X1_unit_1 : ∀ w ∈ ([.fieldLink RX1 45 "ScoreboardCore$Instruction" "unit" "I"] : List Cond), w ∈ wsX0_occupyUnit := List.forall_mem_cons.mpr ⟨List.mem_of_getElem? (i := 12) rfl, fun _ h => nomatch h⟩
set_option maxRecDepth 20000 in
theorem ggX0_occupyUnit_X1_unit_2 : ∀ w ∈ wsX10, w ∈ wsX0_occupyUnit := fun w h => List.mem_cons_of_mem _ (List.mem_append_left _ (List.mem_append_right _ (h)))
theorem ggX0_occupyUnit_X1_unit_m : ∀ w ∈ wsX1_unit, w ∈ wsX0_occupyUnit := fun w h => (List.mem_cons.mp h).elim (fun e => by rw [e]; exact List.mem_of_getElem? (i := 11) rfl) (fun h => (List.mem_append.mp h).elim (fun h => ggX0_occupyUnit_X1_unit_1 w h) (fun h => ggX0_occupyUnit_X1_unit_2 w h))
set_option maxRecDepth 20000 in
theorem ggX0_occupyUnit_X1_unit : GoodIn wsX0_occupyUnit wsX1_unit := goodIn_sub ggX0_occupyUnit_X1_unit_m (by decide +kernel)
set_option maxRecDepth 20000 in
theorem ggX0_occupyUnit_X0_unitFreeAt_1 : ∀ w ∈ ([.fieldLink RX0 19 "ScoreboardCore$Board" "unitFreeFrom" "[I"] : List Cond), w ∈ wsX0_occupyUnit := List.forall_mem_cons.mpr ⟨List.mem_of_getElem? (i := 4) rfl, fun _ h => nomatch h⟩
set_option maxRecDepth 20000 in
theorem ggX0_occupyUnit_X0_unitFreeAt_2 : ∀ w ∈ wsX00, w ∈ wsX0_occupyUnit := fun w h => List.mem_cons_of_mem _ (List.mem_append_left _ (List.mem_append_left _ (List.mem_append_right _ (h))))
theorem ggX0_occupyUnit_X0_unitFreeAt_m : ∀ w ∈ wsX0_unitFreeAt, w ∈ wsX0_occupyUnit := fun w h => (List.mem_cons.mp h).elim (fun e => by rw [e]; exact List.mem_of_getElem? (i := 17) rfl) (fun h => (List.mem_append.mp h).elim (fun h => ggX0_occupyUnit_X0_unitFreeAt_1 w h) (fun h => ggX0_occupyUnit_X0_unitFreeAt_2 w h))
set_option maxRecDepth 20000 in
theorem ggX0_occupyUnit_X0_unitFreeAt : GoodIn wsX0_occupyUnit wsX0_unitFreeAt := goodIn_sub ggX0_occupyUnit_X0_unitFreeAt_m (by decide +kernel)
set_option maxRecDepth 20000 in
theorem ggX0_occupyUnit_X1_needs_1 : ∀ w ∈ ([.fieldLink RX1 14 "ScoreboardCore$Instruction" "needs" "LScoreboardCore$RegisterList;"] : List Cond), w ∈ wsX0_occupyUnit := List.forall_mem_cons.mpr ⟨List.mem_of_getElem? (i := 22) rfl, fun _ h => nomatch h⟩
set_option maxRecDepth 20000 in
theorem ggX0_occupyUnit_X1_needs_2 : ∀ w ∈ wsX10, w ∈ wsX0_occupyUnit := fun w h => List.mem_cons_of_mem _ (List.mem_append_left _ (List.mem_append_right _ (h)))
theorem ggX0_occupyUnit_X1_needs_m : ∀ w ∈ wsX1_needs, w ∈ wsX0_occupyUnit := fun w h => (List.mem_cons.mp h).elim (fun e => by rw [e]; exact List.mem_of_getElem? (i := 21) rfl) (fun h => (List.mem_append.mp h).elim (fun h => ggX0_occupyUnit_X1_needs_1 w h) (fun h => ggX0_occupyUnit_X1_needs_2 w h))
set_option maxRecDepth 20000 in
theorem ggX0_occupyUnit_X1_needs : GoodIn wsX0_occupyUnit wsX1_needs := goodIn_sub ggX0_occupyUnit_X1_needs_m (by decide +kernel)
set_option maxRecDepth 20000 in
theorem ggX0_occupyUnit_X5_latestIn_1 : ∀ w ∈ ([.fieldLink RX5 15 "ScoreboardCore$RegisterList" "size" "I", .fieldLink RX5 11 "ScoreboardCore$RegisterList" "numbers" "[I", .methodLink RX5 23 Lib.Math.max.name, .static Lib.Math.max.name, .initialized "java/lang/Math", .code Lib.Math.max.name Lib.Math.max.code 2 (some .int)] : List Cond), w ∈ wsX0_occupyUnit := List.forall_mem_cons.mpr ⟨List.mem_of_getElem? (i := 28) rfl, List.forall_mem_cons.mpr ⟨List.mem_of_getElem? (i := 29) rfl, List.forall_mem_cons.mpr ⟨List.mem_of_getElem? (i := 30) rfl, List.forall_mem_cons.mpr ⟨List.mem_of_getElem? (i := 31) rfl, List.forall_mem_cons.mpr ⟨List.mem_of_getElem? (i := 32) rfl, List.forall_mem_cons.mpr ⟨List.mem_of_getElem? (i := 33) rfl, fun _ h => nomatch h⟩⟩⟩⟩⟩⟩
set_option maxRecDepth 20000 in
theorem ggX0_occupyUnit_X5_latestIn_2 : ∀ w ∈ wsX50, w ∈ wsX0_occupyUnit := fun w h => List.mem_cons_of_mem _ (List.mem_append_right _ (h))
theorem ggX0_occupyUnit_X5_latestIn_m : ∀ w ∈ wsX5_latestIn, w ∈ wsX0_occupyUnit := fun w h => (List.mem_cons.mp h).elim (fun e => by rw [e]; exact List.mem_of_getElem? (i := 27) rfl) (fun h => (List.mem_append.mp h).elim (fun h => ggX0_occupyUnit_X5_latestIn_1 w h) (fun h => ggX0_occupyUnit_X5_latestIn_2 w h))
set_option maxRecDepth 20000 in
theorem ggX0_occupyUnit_X5_latestIn : GoodIn wsX0_occupyUnit wsX5_latestIn := goodIn_sub ggX0_occupyUnit_X5_latestIn_m (by decide +kernel)
set_option maxRecDepth 20000 in
theorem ggX0_occupyUnit_X0_waitFor_1 : ∀ w ∈ ([.methodLink RX0 118 Lib.Math.max.name, .static Lib.Math.max.name, .initialized "java/lang/Math", .code Lib.Math.max.name Lib.Math.max.code 2 (some .int), .fieldLink RX0 15 "ScoreboardCore$Board" "waitCounts" "[J"] : List Cond), w ∈ wsX0_occupyUnit := List.forall_mem_cons.mpr ⟨List.mem_of_getElem? (i := 38) rfl, List.forall_mem_cons.mpr ⟨List.mem_of_getElem? (i := 31) rfl, List.forall_mem_cons.mpr ⟨List.mem_of_getElem? (i := 32) rfl, List.forall_mem_cons.mpr ⟨List.mem_of_getElem? (i := 33) rfl, List.forall_mem_cons.mpr ⟨List.mem_of_getElem? (i := 39) rfl, fun _ h => nomatch h⟩⟩⟩⟩⟩
set_option maxRecDepth 20000 in
theorem ggX0_occupyUnit_X0_waitFor_2 : ∀ w ∈ wsX00, w ∈ wsX0_occupyUnit := fun w h => List.mem_cons_of_mem _ (List.mem_append_left _ (List.mem_append_left _ (List.mem_append_right _ (h))))
theorem ggX0_occupyUnit_X0_waitFor_m : ∀ w ∈ wsX0_waitFor, w ∈ wsX0_occupyUnit := fun w h => (List.mem_cons.mp h).elim (fun e => by rw [e]; exact List.mem_of_getElem? (i := 37) rfl) (fun h => (List.mem_append.mp h).elim (fun h => ggX0_occupyUnit_X0_waitFor_1 w h) (fun h => ggX0_occupyUnit_X0_waitFor_2 w h))
set_option maxRecDepth 20000 in
theorem ggX0_occupyUnit_X0_waitFor : GoodIn wsX0_occupyUnit wsX0_waitFor := goodIn_sub ggX0_occupyUnit_X0_waitFor_m (by decide +kernel)
set_option maxRecDepth 20000 in
theorem ggX0_occupyUnit_X0_endsAt_1 : ∀ w ∈ (wsX0_endsAt_r1 : List Cond), w ∈ wsX0_occupyUnit := List.forall_mem_cons.mpr ⟨List.mem_of_getElem? (i := 3) rfl, List.forall_mem_cons.mpr ⟨List.mem_of_getElem? (i := 6) rfl, List.forall_mem_cons.mpr ⟨List.mem_of_getElem? (i := 38) rfl, List.forall_mem_cons.mpr ⟨List.mem_of_getElem? (i := 31) rfl, List.forall_mem_cons.mpr ⟨List.mem_of_getElem? (i := 32) rfl, List.forall_mem_cons.mpr ⟨List.mem_of_getElem? (i := 33) rfl, List.forall_mem_cons.mpr ⟨List.mem_of_getElem? (i := 44) rfl, List.forall_mem_cons.mpr ⟨List.mem_of_getElem? (i := 45) rfl, List.forall_mem_cons.mpr ⟨List.mem_of_getElem? (i := 46) rfl, List.forall_mem_cons.mpr ⟨List.mem_of_getElem? (i := 10) rfl, List.forall_mem_cons.mpr ⟨List.mem_of_getElem? (i := 47) rfl, List.forall_mem_cons.mpr ⟨List.mem_of_getElem? (i := 48) rfl, List.forall_mem_cons.mpr ⟨List.mem_of_getElem? (i := 23) rfl, List.forall_mem_cons.mpr ⟨List.mem_of_getElem? (i := 24) rfl, List.forall_mem_cons.mpr ⟨List.mem_of_getElem? (i := 25) rfl, List.forall_mem_cons.mpr ⟨List.mem_of_getElem? (i := 26) rfl, List.forall_mem_cons.mpr ⟨List.mem_of_getElem? (i := 27) rfl, List.forall_mem_cons.mpr ⟨List.mem_of_getElem? (i := 28) rfl, List.forall_mem_cons.mpr ⟨List.mem_of_getElem? (i := 29) rfl, List.forall_mem_cons.mpr ⟨List.mem_of_getElem? (i := 30) rfl, List.forall_mem_cons.mpr ⟨List.mem_of_getElem? (i := 49) rfl, List.forall_mem_cons.mpr ⟨List.mem_of_getElem? (i := 50) rfl, List.forall_mem_cons.mpr ⟨List.mem_of_getElem? (i := 51) rfl, List.forall_mem_cons.mpr ⟨List.mem_of_getElem? (i := 52) rfl, fun _ h => nomatch h⟩⟩⟩⟩⟩⟩⟩⟩⟩⟩⟩⟩⟩⟩⟩⟩⟩⟩⟩⟩⟩⟩⟩⟩
set_option maxRecDepth 20000 in
theorem ggX0_occupyUnit_X0_endsAt_2 : ∀ w ∈ (wsX0_endsAt_r2 : List Cond), w ∈ wsX0_occupyUnit := List.forall_mem_cons.mpr ⟨List.mem_of_getElem? (i := 53) rfl, List.forall_mem_cons.mpr ⟨List.mem_of_getElem? (i := 54) rfl, List.forall_mem_cons.mpr ⟨List.mem_of_getElem? (i := 55) rfl, List.forall_mem_cons.mpr ⟨List.mem_of_getElem? (i := 56) rfl, List.forall_mem_cons.mpr ⟨List.mem_of_getElem? (i := 57) rfl, List.forall_mem_cons.mpr ⟨List.mem_of_getElem? (i := 58) rfl, List.forall_mem_cons.mpr ⟨List.mem_of_getElem? (i := 34) rfl, List.forall_mem_cons.mpr ⟨List.mem_of_getElem? (i := 35) rfl, List.forall_mem_cons.mpr ⟨List.mem_of_getElem? (i := 36) rfl, List.forall_mem_cons.mpr ⟨List.mem_of_getElem? (i := 16) rfl, List.forall_mem_cons.mpr ⟨List.mem_of_getElem? (i := 37) rfl, List.forall_mem_cons.mpr ⟨List.mem_of_getElem? (i := 39) rfl, fun _ h => nomatch h⟩⟩⟩⟩⟩⟩⟩⟩⟩⟩⟩⟩
set_option maxRecDepth 20000 in
theorem ggX0_occupyUnit_X0_endsAt_3 : ∀ w ∈ wsX00, w ∈ wsX0_occupyUnit := fun w h => List.mem_cons_of_mem _ (List.mem_append_left _ (List.mem_append_left _ (List.mem_append_right _ (h))))
set_option maxRecDepth 20000 in
theorem ggX0_occupyUnit_X0_endsAt_4 : ∀ w ∈ wsX10, w ∈ wsX0_occupyUnit := fun w h => List.mem_cons_of_mem _ (List.mem_append_left _ (List.mem_append_right _ (h)))
set_option maxRecDepth 20000 in
theorem ggX0_occupyUnit_X0_endsAt_5 : ∀ w ∈ wsX50, w ∈ wsX0_occupyUnit := fun w h => List.mem_cons_of_mem _ (List.mem_append_right _ (h))
theorem ggX0_occupyUnit_X0_endsAt_m : ∀ w ∈ wsX0_endsAt, w ∈ wsX0_occupyUnit := fun w h => (List.mem_cons.mp h).elim (fun e => by rw [e]; exact List.mem_of_getElem? (i := 43) rfl) (fun h => (List.mem_append.mp h).elim (fun h => (List.mem_append.mp h).elim (fun h => (List.mem_append.mp h).elim (fun h => (List.mem_append.mp h).elim (fun h => ggX0_occupyUnit_X0_endsAt_1 w h) (fun h => ggX0_occupyUnit_X0_endsAt_2 w h)) (fun h => ggX0_occupyUnit_X0_endsAt_3 w h)) (fun h => ggX0_occupyUnit_X0_endsAt_4 w h)) (fun h => ggX0_occupyUnit_X0_endsAt_5 w h))
set_option maxRecDepth 20000 in
theorem ggX0_occupyUnit_X0_endsAt : GoodIn wsX0_occupyUnit wsX0_endsAt := goodIn_sub ggX0_occupyUnit_X0_endsAt_m (by decide +kernel)
set_option maxRecDepth 20000 in
theorem ggX0_occupyUnit_X5_raiseIn_1 : ∀ w ∈ ([.fieldLink RX5 15 "ScoreboardCore$RegisterList" "size" "I", .fieldLink RX5 11 "ScoreboardCore$RegisterList" "numbers" "[I", .methodLink RX5 23 Lib.Math.max.name, .static Lib.Math.max.name, .initialized "java/lang/Math", .code Lib.Math.max.name Lib.Math.max.code 2 (some .int)] : List Cond), w ∈ wsX0_occupyUnit := List.forall_mem_cons.mpr ⟨List.mem_of_getElem? (i := 28) rfl, List.forall_mem_cons.mpr ⟨List.mem_of_getElem? (i := 29) rfl, List.forall_mem_cons.mpr ⟨List.mem_of_getElem? (i := 30) rfl, List.forall_mem_cons.mpr ⟨List.mem_of_getElem? (i := 31) rfl, List.forall_mem_cons.mpr ⟨List.mem_of_getElem? (i := 32) rfl, List.forall_mem_cons.mpr ⟨List.mem_of_getElem? (i := 33) rfl, fun _ h => nomatch h⟩⟩⟩⟩⟩⟩
set_option maxRecDepth 20000 in
theorem ggX0_occupyUnit_X5_raiseIn_2 : ∀ w ∈ wsX50, w ∈ wsX0_occupyUnit := fun w h => List.mem_cons_of_mem _ (List.mem_append_right _ (h))
theorem ggX0_occupyUnit_X5_raiseIn_m : ∀ w ∈ wsX5_raiseIn, w ∈ wsX0_occupyUnit := fun w h => (List.mem_cons.mp h).elim (fun e => by rw [e]; exact List.mem_of_getElem? (i := 62) rfl) (fun h => (List.mem_append.mp h).elim (fun h => ggX0_occupyUnit_X5_raiseIn_1 w h) (fun h => ggX0_occupyUnit_X5_raiseIn_2 w h))
set_option maxRecDepth 20000 in
theorem ggX0_occupyUnit_X5_raiseIn : GoodIn wsX0_occupyUnit wsX5_raiseIn := goodIn_sub ggX0_occupyUnit_X5_raiseIn_m (by decide +kernel)
set_option maxRecDepth 20000 in
theorem ggX0_occupyUnit_X1_results_1 : ∀ w ∈ ([.fieldLink RX1 18 "ScoreboardCore$Instruction" "results" "LScoreboardCore$RegisterList;"] : List Cond), w ∈ wsX0_occupyUnit := List.forall_mem_cons.mpr ⟨List.mem_of_getElem? (i := 48) rfl, fun _ h => nomatch h⟩
set_option maxRecDepth 20000 in
theorem ggX0_occupyUnit_X1_results_2 : ∀ w ∈ wsX10, w ∈ wsX0_occupyUnit := fun w h => List.mem_cons_of_mem _ (List.mem_append_left _ (List.mem_append_right _ (h)))
theorem ggX0_occupyUnit_X1_results_m : ∀ w ∈ wsX1_results, w ∈ wsX0_occupyUnit := fun w h => (List.mem_cons.mp h).elim (fun e => by rw [e]; exact List.mem_of_getElem? (i := 47) rfl) (fun h => (List.mem_append.mp h).elim (fun h => ggX0_occupyUnit_X1_results_1 w h) (fun h => ggX0_occupyUnit_X1_results_2 w h))
set_option maxRecDepth 20000 in
theorem ggX0_occupyUnit_X1_results : GoodIn wsX0_occupyUnit wsX1_results := goodIn_sub ggX0_occupyUnit_X1_results_m (by decide +kernel)
set_option maxRecDepth 20000 in
theorem ggX0_occupyUnit_X0_reach_1 : ∀ w ∈ ([.fieldLink RX0 45 "ScoreboardCore$Board" "last" "I", .methodLink RX0 118 Lib.Math.max.name, .static Lib.Math.max.name, .initialized "java/lang/Math", .code Lib.Math.max.name Lib.Math.max.code 2 (some .int)] : List Cond), w ∈ wsX0_occupyUnit := List.forall_mem_cons.mpr ⟨List.mem_of_getElem? (i := 67) rfl, List.forall_mem_cons.mpr ⟨List.mem_of_getElem? (i := 38) rfl, List.forall_mem_cons.mpr ⟨List.mem_of_getElem? (i := 31) rfl, List.forall_mem_cons.mpr ⟨List.mem_of_getElem? (i := 32) rfl, List.forall_mem_cons.mpr ⟨List.mem_of_getElem? (i := 33) rfl, fun _ h => nomatch h⟩⟩⟩⟩⟩
set_option maxRecDepth 20000 in
theorem ggX0_occupyUnit_X0_reach_2 : ∀ w ∈ wsX00, w ∈ wsX0_occupyUnit := fun w h => List.mem_cons_of_mem _ (List.mem_append_left _ (List.mem_append_left _ (List.mem_append_right _ (h))))
theorem ggX0_occupyUnit_X0_reach_m : ∀ w ∈ wsX0_reach, w ∈ wsX0_occupyUnit := fun w h => (List.mem_cons.mp h).elim (fun e => by rw [e]; exact List.mem_of_getElem? (i := 66) rfl) (fun h => (List.mem_append.mp h).elim (fun h => ggX0_occupyUnit_X0_reach_1 w h) (fun h => ggX0_occupyUnit_X0_reach_2 w h))
set_option maxRecDepth 20000 in
theorem ggX0_occupyUnit_X0_reach : GoodIn wsX0_occupyUnit wsX0_reach := goodIn_sub ggX0_occupyUnit_X0_reach_m (by decide +kernel)
set_option maxRecDepth 20000 in
theorem ggX0_occupyUnit_X1_loads_1 : ∀ w ∈ ([.fieldLink RX1 25 "ScoreboardCore$Instruction" "op" "I", .fieldLink RX1 28 "ScoreboardCore$Instruction" "i" "I"] : List Cond), w ∈ wsX0_occupyUnit := List.forall_mem_cons.mpr ⟨List.mem_of_getElem? (i := 53) rfl, List.forall_mem_cons.mpr ⟨List.mem_of_getElem? (i := 54) rfl, fun _ h => nomatch h⟩⟩
set_option maxRecDepth 20000 in
theorem ggX0_occupyUnit_X1_loads_2 : ∀ w ∈ wsX10, w ∈ wsX0_occupyUnit := fun w h => List.mem_cons_of_mem _ (List.mem_append_left _ (List.mem_append_right _ (h)))
theorem ggX0_occupyUnit_X1_loads_m : ∀ w ∈ wsX1_loads, w ∈ wsX0_occupyUnit := fun w h => (List.mem_cons.mp h).elim (fun e => by rw [e]; exact List.mem_of_getElem? (i := 52) rfl) (fun h => (List.mem_append.mp h).elim (fun h => ggX0_occupyUnit_X1_loads_1 w h) (fun h => ggX0_occupyUnit_X1_loads_2 w h))
set_option maxRecDepth 20000 in
theorem ggX0_occupyUnit_X1_loads : GoodIn wsX0_occupyUnit wsX1_loads := goodIn_sub ggX0_occupyUnit_X1_loads_m (by decide +kernel)
set_option maxRecDepth 20000 in
theorem ggX0_occupyUnit_X1_stores_1 : ∀ w ∈ ([.fieldLink RX1 25 "ScoreboardCore$Instruction" "op" "I", .fieldLink RX1 28 "ScoreboardCore$Instruction" "i" "I"] : List Cond), w ∈ wsX0_occupyUnit := List.forall_mem_cons.mpr ⟨List.mem_of_getElem? (i := 53) rfl, List.forall_mem_cons.mpr ⟨List.mem_of_getElem? (i := 54) rfl, fun _ h => nomatch h⟩⟩
set_option maxRecDepth 20000 in
theorem ggX0_occupyUnit_X1_stores_2 : ∀ w ∈ wsX10, w ∈ wsX0_occupyUnit := fun w h => List.mem_cons_of_mem _ (List.mem_append_left _ (List.mem_append_right _ (h)))
theorem ggX0_occupyUnit_X1_stores_m : ∀ w ∈ wsX1_stores, w ∈ wsX0_occupyUnit := fun w h => (List.mem_cons.mp h).elim (fun e => by rw [e]; exact List.mem_of_getElem? (i := 58) rfl) (fun h => (List.mem_append.mp h).elim (fun h => ggX0_occupyUnit_X1_stores_1 w h) (fun h => ggX0_occupyUnit_X1_stores_2 w h))
set_option maxRecDepth 20000 in
theorem ggX0_occupyUnit_X1_stores : GoodIn wsX0_occupyUnit wsX1_stores := goodIn_sub ggX0_occupyUnit_X1_stores_m (by decide +kernel)
set_option maxRecDepth 20000 in
theorem ggX0_occupyUnit_X1_i_1 : ∀ w ∈ ([.fieldLink RX1 28 "ScoreboardCore$Instruction" "i" "I"] : List Cond), w ∈ wsX0_occupyUnit := List.forall_mem_cons.mpr ⟨List.mem_of_getElem? (i := 54) rfl, fun _ h => nomatch h⟩
set_option maxRecDepth 20000 in
theorem ggX0_occupyUnit_X1_i_2 : ∀ w ∈ wsX10, w ∈ wsX0_occupyUnit := fun w h => List.mem_cons_of_mem _ (List.mem_append_left _ (List.mem_append_right _ (h)))
theorem ggX0_occupyUnit_X1_i_m : ∀ w ∈ wsX1_i, w ∈ wsX0_occupyUnit := fun w h => (List.mem_cons.mp h).elim (fun e => by rw [e]; exact List.mem_of_getElem? (i := 71) rfl) (fun h => (List.mem_append.mp h).elim (fun h => ggX0_occupyUnit_X1_i_1 w h) (fun h => ggX0_occupyUnit_X1_i_2 w h))
set_option maxRecDepth 20000 in
theorem ggX0_occupyUnit_X1_i : GoodIn wsX0_occupyUnit wsX1_i := goodIn_sub ggX0_occupyUnit_X1_i_m (by decide +kernel)
theorem dX0_occupyUnit_0 : decode cX0_occupyUnit 0 = .ok (.aload_n 0, 1) := by decide +kernel
theorem dX0_occupyUnit_1 : decode cX0_occupyUnit 1 = .ok (.aload_n 1, 1) := by decide +kernel
theorem dX0_occupyUnit_2 : decode cX0_occupyUnit 2 = .ok (.invokevirtual 48, 3) := by decide +kernel
theorem dX0_occupyUnit_5 : decode cX0_occupyUnit 5 = .ok (.iload_n 2, 1) := by decide +kernel
theorem dX0_occupyUnit_6 : decode cX0_occupyUnit 6 = .ok (.invokevirtual 95, 3) := by decide +kernel
theorem dX0_occupyUnit_9 : decode cX0_occupyUnit 9 = .ok (.istore_n 3, 1) := by decide +kernel
theorem dX0_occupyUnit_10 : decode cX0_occupyUnit 10 = .ok (.aload_n 0, 1) := by decide +kernel
theorem dX0_occupyUnit_11 : decode cX0_occupyUnit 11 = .ok (.iload_n 2, 1) := by decide +kernel
theorem dX0_occupyUnit_12 : decode cX0_occupyUnit 12 = .ok (.iconst 1, 1) := by decide +kernel
theorem dX0_occupyUnit_13 : decode cX0_occupyUnit 13 = .ok (.iadd, 1) := by decide +kernel
theorem dX0_occupyUnit_14 : decode cX0_occupyUnit 14 = .ok (.aload_n 1, 1) := by decide +kernel
theorem dX0_occupyUnit_15 : decode cX0_occupyUnit 15 = .ok (.invokevirtual 69, 3) := by decide +kernel
theorem dX0_occupyUnit_18 : decode cX0_occupyUnit 18 = .ok (.aload_n 0, 1) := by decide +kernel
theorem dX0_occupyUnit_19 : decode cX0_occupyUnit 19 = .ok (.getfield 22, 3) := by decide +kernel
theorem dX0_occupyUnit_22 : decode cX0_occupyUnit 22 = .ok (.invokevirtual 73, 3) := by decide +kernel
theorem dX0_occupyUnit_25 : decode cX0_occupyUnit 25 = .ok (.iconst 3, 1) := by decide +kernel
theorem dX0_occupyUnit_26 : decode cX0_occupyUnit 26 = .ok (.invokevirtual 82, 3) := by decide +kernel
theorem dX0_occupyUnit_29 : decode cX0_occupyUnit 29 = .ok (.istore 4, 2) := by decide +kernel
theorem dX0_occupyUnit_31 : decode cX0_occupyUnit 31 = .ok (.aload_n 0, 1) := by decide +kernel
theorem dX0_occupyUnit_32 : decode cX0_occupyUnit 32 = .ok (.aload_n 1, 1) := by decide +kernel
theorem dX0_occupyUnit_33 : decode cX0_occupyUnit 33 = .ok (.iload 4, 2) := by decide +kernel
theorem dX0_occupyUnit_35 : decode cX0_occupyUnit 35 = .ok (.getstatic 98, 3) := by decide +kernel
theorem dX0_occupyUnit_38 : decode cX0_occupyUnit 38 = .ok (.iload_n 3, 1) := by decide +kernel
theorem dX0_occupyUnit_39 : decode cX0_occupyUnit 39 = .ok (.iaload, 1) := by decide +kernel
theorem dX0_occupyUnit_40 : decode cX0_occupyUnit 40 = .ok (.iadd, 1) := by decide +kernel
theorem dX0_occupyUnit_41 : decode cX0_occupyUnit 41 = .ok (.invokevirtual 101, 3) := by decide +kernel
theorem dX0_occupyUnit_44 : decode cX0_occupyUnit 44 = .ok (.istore 5, 2) := by decide +kernel
theorem dX0_occupyUnit_46 : decode cX0_occupyUnit 46 = .ok (.aload_n 1, 1) := by decide +kernel
theorem dX0_occupyUnit_47 : decode cX0_occupyUnit 47 = .ok (.invokevirtual 69, 3) := by decide +kernel
theorem dX0_occupyUnit_50 : decode cX0_occupyUnit 50 = .ok (.aload_n 0, 1) := by decide +kernel
theorem dX0_occupyUnit_51 : decode cX0_occupyUnit 51 = .ok (.getfield 25, 3) := by decide +kernel
theorem dX0_occupyUnit_54 : decode cX0_occupyUnit 54 = .ok (.iload 4, 2) := by decide +kernel
theorem dX0_occupyUnit_56 : decode cX0_occupyUnit 56 = .ok (.invokevirtual 105, 3) := by decide +kernel
theorem dX0_occupyUnit_59 : decode cX0_occupyUnit 59 = .ok (.aload_n 1, 1) := by decide +kernel
theorem dX0_occupyUnit_60 : decode cX0_occupyUnit 60 = .ok (.invokevirtual 92, 3) := by decide +kernel
theorem dX0_occupyUnit_63 : decode cX0_occupyUnit 63 = .ok (.aload_n 0, 1) := by decide +kernel
theorem dX0_occupyUnit_64 : decode cX0_occupyUnit 64 = .ok (.getfield 22, 3) := by decide +kernel
theorem dX0_occupyUnit_67 : decode cX0_occupyUnit 67 = .ok (.iload 5, 2) := by decide +kernel
theorem dX0_occupyUnit_69 : decode cX0_occupyUnit 69 = .ok (.iconst 1, 1) := by decide +kernel
theorem dX0_occupyUnit_70 : decode cX0_occupyUnit 70 = .ok (.iadd, 1) := by decide +kernel
theorem dX0_occupyUnit_71 : decode cX0_occupyUnit 71 = .ok (.invokevirtual 105, 3) := by decide +kernel
theorem dX0_occupyUnit_74 : decode cX0_occupyUnit 74 = .ok (.aload_n 0, 1) := by decide +kernel
theorem dX0_occupyUnit_75 : decode cX0_occupyUnit 75 = .ok (.getfield 19, 3) := by decide +kernel
theorem dX0_occupyUnit_78 : decode cX0_occupyUnit 78 = .ok (.iload_n 3, 1) := by decide +kernel
theorem dX0_occupyUnit_79 : decode cX0_occupyUnit 79 = .ok (.iload 5, 2) := by decide +kernel
theorem dX0_occupyUnit_81 : decode cX0_occupyUnit 81 = .ok (.iconst 1, 1) := by decide +kernel
theorem dX0_occupyUnit_82 : decode cX0_occupyUnit 82 = .ok (.iadd, 1) := by decide +kernel
theorem dX0_occupyUnit_83 : decode cX0_occupyUnit 83 = .ok (.iastore, 1) := by decide +kernel
theorem dX0_occupyUnit_84 : decode cX0_occupyUnit 84 = .ok (.aload_n 0, 1) := by decide +kernel
theorem dX0_occupyUnit_85 : decode cX0_occupyUnit 85 = .ok (.getfield 11, 3) := by decide +kernel
theorem dX0_occupyUnit_88 : decode cX0_occupyUnit 88 = .ok (.iload_n 3, 1) := by decide +kernel
theorem dX0_occupyUnit_89 : decode cX0_occupyUnit 89 = .ok (.dup2, 1) := by decide +kernel
theorem dX0_occupyUnit_90 : decode cX0_occupyUnit 90 = .ok (.iaload, 1) := by decide +kernel
theorem dX0_occupyUnit_91 : decode cX0_occupyUnit 91 = .ok (.iconst 1, 1) := by decide +kernel
theorem dX0_occupyUnit_92 : decode cX0_occupyUnit 92 = .ok (.iadd, 1) := by decide +kernel
theorem dX0_occupyUnit_93 : decode cX0_occupyUnit 93 = .ok (.iastore, 1) := by decide +kernel
theorem dX0_occupyUnit_94 : decode cX0_occupyUnit 94 = .ok (.aload_n 0, 1) := by decide +kernel
theorem dX0_occupyUnit_95 : decode cX0_occupyUnit 95 = .ok (.iload 5, 2) := by decide +kernel
theorem dX0_occupyUnit_97 : decode cX0_occupyUnit 97 = .ok (.invokevirtual 62, 3) := by decide +kernel
theorem dX0_occupyUnit_100 : decode cX0_occupyUnit 100 = .ok (.aload_n 1, 1) := by decide +kernel
theorem dX0_occupyUnit_101 : decode cX0_occupyUnit 101 = .ok (.invokevirtual 108, 3) := by decide +kernel
theorem dX0_occupyUnit_104 : decode cX0_occupyUnit 104 = .ok (.ifCond .ne 10, 3) := by decide +kernel
theorem dX0_occupyUnit_107 : decode cX0_occupyUnit 107 = .ok (.aload_n 1, 1) := by decide +kernel
theorem dX0_occupyUnit_108 : decode cX0_occupyUnit 108 = .ok (.invokevirtual 112, 3) := by decide +kernel
theorem dX0_occupyUnit_111 : decode cX0_occupyUnit 111 = .ok (.ifCond .eq 9, 3) := by decide +kernel
theorem dX0_occupyUnit_114 : decode cX0_occupyUnit 114 = .ok (.aload_n 0, 1) := by decide +kernel
theorem dX0_occupyUnit_115 : decode cX0_occupyUnit 115 = .ok (.iload 5, 2) := by decide +kernel
theorem dX0_occupyUnit_117 : decode cX0_occupyUnit 117 = .ok (.putfield 38, 3) := by decide +kernel
theorem dX0_occupyUnit_120 : decode cX0_occupyUnit 120 = .ok (.aload_n 1, 1) := by decide +kernel
theorem dX0_occupyUnit_121 : decode cX0_occupyUnit 121 = .ok (.invokevirtual 108, 3) := by decide +kernel
theorem dX0_occupyUnit_124 : decode cX0_occupyUnit 124 = .ok (.ifCond .eq 26, 3) := by decide +kernel
theorem dX0_occupyUnit_127 : decode cX0_occupyUnit 127 = .ok (.aload_n 0, 1) := by decide +kernel
theorem dX0_occupyUnit_128 : decode cX0_occupyUnit 128 = .ok (.getfield 22, 3) := by decide +kernel
theorem dX0_occupyUnit_131 : decode cX0_occupyUnit 131 = .ok (.aload_n 1, 1) := by decide +kernel
theorem dX0_occupyUnit_132 : decode cX0_occupyUnit 132 = .ok (.invokevirtual 115, 3) := by decide +kernel
theorem dX0_occupyUnit_135 : decode cX0_occupyUnit 135 = .ok (.iload 5, 2) := by decide +kernel
theorem dX0_occupyUnit_137 : decode cX0_occupyUnit 137 = .ok (.iconst 5, 1) := by decide +kernel
theorem dX0_occupyUnit_138 : decode cX0_occupyUnit 138 = .ok (.iadd, 1) := by decide +kernel
theorem dX0_occupyUnit_139 : decode cX0_occupyUnit 139 = .ok (.iconst 1, 1) := by decide +kernel
theorem dX0_occupyUnit_140 : decode cX0_occupyUnit 140 = .ok (.iadd, 1) := by decide +kernel
theorem dX0_occupyUnit_141 : decode cX0_occupyUnit 141 = .ok (.iastore, 1) := by decide +kernel
theorem dX0_occupyUnit_142 : decode cX0_occupyUnit 142 = .ok (.aload_n 0, 1) := by decide +kernel
theorem dX0_occupyUnit_143 : decode cX0_occupyUnit 143 = .ok (.iload 5, 2) := by decide +kernel
theorem dX0_occupyUnit_145 : decode cX0_occupyUnit 145 = .ok (.iconst 5, 1) := by decide +kernel
theorem dX0_occupyUnit_146 : decode cX0_occupyUnit 146 = .ok (.iadd, 1) := by decide +kernel
theorem dX0_occupyUnit_147 : decode cX0_occupyUnit 147 = .ok (.invokevirtual 62, 3) := by decide +kernel
theorem dX0_occupyUnit_150 : decode cX0_occupyUnit 150 = .ok (.return_, 1) := by decide +kernel
theorem dX0_unitFreeAt_0 : decode cX0_unitFreeAt 0 = .ok (.iload_n 1, 1) := by decide +kernel
theorem dX0_unitFreeAt_1 : decode cX0_unitFreeAt 1 = .ok (.iconst 4, 1) := by decide +kernel
theorem dX0_unitFreeAt_2 : decode cX0_unitFreeAt 2 = .ok (.if_icmp .ne 17, 3) := by decide +kernel
theorem dX0_unitFreeAt_5 : decode cX0_unitFreeAt 5 = .ok (.aload_n 0, 1) := by decide +kernel
theorem dX0_unitFreeAt_6 : decode cX0_unitFreeAt 6 = .ok (.getfield 19, 3) := by decide +kernel
theorem dX0_unitFreeAt_9 : decode cX0_unitFreeAt 9 = .ok (.iconst 4, 1) := by decide +kernel
theorem dX0_unitFreeAt_10 : decode cX0_unitFreeAt 10 = .ok (.iaload, 1) := by decide +kernel
theorem dX0_unitFreeAt_11 : decode cX0_unitFreeAt 11 = .ok (.iload_n 2, 1) := by decide +kernel
theorem dX0_unitFreeAt_12 : decode cX0_unitFreeAt 12 = .ok (.if_icmp .le 7, 3) := by decide +kernel
theorem dX0_unitFreeAt_15 : decode cX0_unitFreeAt 15 = .ok (.iconst 1, 1) := by decide +kernel
theorem dX0_unitFreeAt_16 : decode cX0_unitFreeAt 16 = .ok (.goto 4, 3) := by decide +kernel
theorem dX0_unitFreeAt_19 : decode cX0_unitFreeAt 19 = .ok (.iconst 0, 1) := by decide +kernel
theorem dX0_unitFreeAt_20 : decode cX0_unitFreeAt 20 = .ok (.istore_n 3, 1) := by decide +kernel
theorem dX0_unitFreeAt_21 : decode cX0_unitFreeAt 21 = .ok (.iload_n 3, 1) := by decide +kernel
theorem dX0_unitFreeAt_22 : decode cX0_unitFreeAt 22 = .ok (.ifCond .eq 7, 3) := by decide +kernel
theorem dX0_unitFreeAt_25 : decode cX0_unitFreeAt 25 = .ok (.iconst 5, 1) := by decide +kernel
theorem dX0_unitFreeAt_26 : decode cX0_unitFreeAt 26 = .ok (.goto 4, 3) := by decide +kernel
theorem dX0_unitFreeAt_29 : decode cX0_unitFreeAt 29 = .ok (.iload_n 1, 1) := by decide +kernel
theorem dX0_unitFreeAt_30 : decode cX0_unitFreeAt 30 = .ok (.ireturn, 1) := by decide +kernel
set_option maxRecDepth 20000 in
theorem ggX0_endsAt_X1_results_1 : ∀ w ∈ ([.fieldLink RX1 18 "ScoreboardCore$Instruction" "results" "LScoreboardCore$RegisterList;"] : List Cond), w ∈ wsX0_endsAt := List.forall_mem_cons.mpr ⟨List.mem_of_getElem? (i := 12) rfl, fun _ h => nomatch h⟩
set_option maxRecDepth 20000 in
theorem ggX0_endsAt_X1_results_2 : ∀ w ∈ wsX10, w ∈ wsX0_endsAt := fun w h => List.mem_cons_of_mem _ (List.mem_append_left _ (List.mem_append_right _ (h)))
theorem ggX0_endsAt_X1_results_m : ∀ w ∈ wsX1_results, w ∈ wsX0_endsAt := fun w h => (List.mem_cons.mp h).elim (fun e => by rw [e]; exact List.mem_of_getElem? (i := 11) rfl) (fun h => (List.mem_append.mp h).elim (fun h => ggX0_endsAt_X1_results_1 w h) (fun h => ggX0_endsAt_X1_results_2 w h))
set_option maxRecDepth 20000 in
theorem ggX0_endsAt_X1_results : GoodIn wsX0_endsAt wsX1_results := goodIn_sub ggX0_endsAt_X1_results_m (by decide +kernel)
set_option maxRecDepth 20000 in
theorem ggX0_endsAt_X5_latestIn_1 : ∀ w ∈ ([.fieldLink RX5 15 "ScoreboardCore$RegisterList" "size" "I", .fieldLink RX5 11 "ScoreboardCore$RegisterList" "numbers" "[I", .methodLink RX5 23 Lib.Math.max.name, .static Lib.Math.max.name, .initialized "java/lang/Math", .code Lib.Math.max.name Lib.Math.max.code 2 (some .int)] : List Cond), w ∈ wsX0_endsAt := List.forall_mem_cons.mpr ⟨List.mem_of_getElem? (i := 18) rfl, List.forall_mem_cons.mpr ⟨List.mem_of_getElem? (i := 19) rfl, List.forall_mem_cons.mpr ⟨List.mem_of_getElem? (i := 20) rfl, List.forall_mem_cons.mpr ⟨List.mem_of_getElem? (i := 4) rfl, List.forall_mem_cons.mpr ⟨List.mem_of_getElem? (i := 5) rfl, List.forall_mem_cons.mpr ⟨List.mem_of_getElem? (i := 6) rfl, fun _ h => nomatch h⟩⟩⟩⟩⟩⟩
set_option maxRecDepth 20000 in
theorem ggX0_endsAt_X5_latestIn_2 : ∀ w ∈ wsX50, w ∈ wsX0_endsAt := fun w h => List.mem_cons_of_mem _ (List.mem_append_right _ (h))
theorem ggX0_endsAt_X5_latestIn_m : ∀ w ∈ wsX5_latestIn, w ∈ wsX0_endsAt := fun w h => (List.mem_cons.mp h).elim (fun e => by rw [e]; exact List.mem_of_getElem? (i := 17) rfl) (fun h => (List.mem_append.mp h).elim (fun h => ggX0_endsAt_X5_latestIn_1 w h) (fun h => ggX0_endsAt_X5_latestIn_2 w h))
set_option maxRecDepth 20000 in
theorem ggX0_endsAt_X5_latestIn : GoodIn wsX0_endsAt wsX5_latestIn := goodIn_sub ggX0_endsAt_X5_latestIn_m (by decide +kernel)
set_option maxRecDepth 20000 in
theorem ggX0_endsAt_X1_loads_1 : ∀ w ∈ ([.fieldLink RX1 25 "ScoreboardCore$Instruction" "op" "I", .fieldLink RX1 28 "ScoreboardCore$Instruction" "i" "I"] : List Cond), w ∈ wsX0_endsAt := List.forall_mem_cons.mpr ⟨List.mem_of_getElem? (i := 25) rfl, List.forall_mem_cons.mpr ⟨List.mem_of_getElem? (i := 26) rfl, fun _ h => nomatch h⟩⟩
set_option maxRecDepth 20000 in
theorem ggX0_endsAt_X1_loads_2 : ∀ w ∈ wsX10, w ∈ wsX0_endsAt := fun w h => List.mem_cons_of_mem _ (List.mem_append_left _ (List.mem_append_right _ (h)))
theorem ggX0_endsAt_X1_loads_m : ∀ w ∈ wsX1_loads, w ∈ wsX0_endsAt := fun w h => (List.mem_cons.mp h).elim (fun e => by rw [e]; exact List.mem_of_getElem? (i := 24) rfl) (fun h => (List.mem_append.mp h).elim (fun h => ggX0_endsAt_X1_loads_1 w h) (fun h => ggX0_endsAt_X1_loads_2 w h))
set_option maxRecDepth 20000 in
theorem ggX0_endsAt_X1_loads : GoodIn wsX0_endsAt wsX1_loads := goodIn_sub ggX0_endsAt_X1_loads_m (by decide +kernel)
set_option maxRecDepth 20000 in
theorem ggX0_endsAt_X1_stores_1 : ∀ w ∈ ([.fieldLink RX1 25 "ScoreboardCore$Instruction" "op" "I", .fieldLink RX1 28 "ScoreboardCore$Instruction" "i" "I"] : List Cond), w ∈ wsX0_endsAt := List.forall_mem_cons.mpr ⟨List.mem_of_getElem? (i := 25) rfl, List.forall_mem_cons.mpr ⟨List.mem_of_getElem? (i := 26) rfl, fun _ h => nomatch h⟩⟩
set_option maxRecDepth 20000 in
theorem ggX0_endsAt_X1_stores_2 : ∀ w ∈ wsX10, w ∈ wsX0_endsAt := fun w h => List.mem_cons_of_mem _ (List.mem_append_left _ (List.mem_append_right _ (h)))
theorem ggX0_endsAt_X1_stores_m : ∀ w ∈ wsX1_stores, w ∈ wsX0_endsAt := fun w h => (List.mem_cons.mp h).elim (fun e => by rw [e]; exact List.mem_of_getElem? (i := 30) rfl) (fun h => (List.mem_append.mp h).elim (fun h => ggX0_endsAt_X1_stores_1 w h) (fun h => ggX0_endsAt_X1_stores_2 w h))
set_option maxRecDepth 20000 in
theorem ggX0_endsAt_X1_stores : GoodIn wsX0_endsAt wsX1_stores := goodIn_sub ggX0_endsAt_X1_stores_m (by decide +kernel)
set_option maxRecDepth 20000 in
theorem ggX0_endsAt_X0_waitFor_1 : ∀ w ∈ ([.methodLink RX0 118 Lib.Math.max.name, .static Lib.Math.max.name, .initialized "java/lang/Math", .code Lib.Math.max.name Lib.Math.max.code 2 (some .int), .fieldLink RX0 15 "ScoreboardCore$Board" "waitCounts" "[J"] : List Cond), w ∈ wsX0_endsAt := List.forall_mem_cons.mpr ⟨List.mem_of_getElem? (i := 3) rfl, List.forall_mem_cons.mpr ⟨List.mem_of_getElem? (i := 4) rfl, List.forall_mem_cons.mpr ⟨List.mem_of_getElem? (i := 5) rfl, List.forall_mem_cons.mpr ⟨List.mem_of_getElem? (i := 6) rfl, List.forall_mem_cons.mpr ⟨List.mem_of_getElem? (i := 36) rfl, fun _ h => nomatch h⟩⟩⟩⟩⟩
set_option maxRecDepth 20000 in
theorem ggX0_endsAt_X0_waitFor_2 : ∀ w ∈ wsX00, w ∈ wsX0_endsAt := fun w h => List.mem_cons_of_mem _ (List.mem_append_left _ (List.mem_append_left _ (List.mem_append_right _ (h))))
theorem ggX0_endsAt_X0_waitFor_m : ∀ w ∈ wsX0_waitFor, w ∈ wsX0_endsAt := fun w h => (List.mem_cons.mp h).elim (fun e => by rw [e]; exact List.mem_of_getElem? (i := 35) rfl) (fun h => (List.mem_append.mp h).elim (fun h => ggX0_endsAt_X0_waitFor_1 w h) (fun h => ggX0_endsAt_X0_waitFor_2 w h))
set_option maxRecDepth 20000 in
theorem ggX0_endsAt_X0_waitFor : GoodIn wsX0_endsAt wsX0_waitFor := goodIn_sub ggX0_endsAt_X0_waitFor_m (by decide +kernel)
theorem dX0_endsAt_0 : decode cX0_endsAt 0 = .ok (.aload_n 1, 1) := by decide +kernel
theorem dX0_endsAt_1 : decode cX0_endsAt 1 = .ok (.invokevirtual 92, 3) := by decide +kernel
theorem dX0_endsAt_4 : decode cX0_endsAt 4 = .ok (.aload_n 0, 1) := by decide +kernel
theorem dX0_endsAt_5 : decode cX0_endsAt 5 = .ok (.getfield 25, 3) := by decide +kernel
theorem dX0_endsAt_8 : decode cX0_endsAt 8 = .ok (.invokevirtual 73, 3) := by decide +kernel
theorem dX0_endsAt_11 : decode cX0_endsAt 11 = .ok (.iconst 1, 1) := by decide +kernel
theorem dX0_endsAt_12 : decode cX0_endsAt 12 = .ok (.iadd, 1) := by decide +kernel
theorem dX0_endsAt_13 : decode cX0_endsAt 13 = .ok (.istore_n 3, 1) := by decide +kernel
theorem dX0_endsAt_14 : decode cX0_endsAt 14 = .ok (.aload_n 1, 1) := by decide +kernel
theorem dX0_endsAt_15 : decode cX0_endsAt 15 = .ok (.invokevirtual 108, 3) := by decide +kernel
theorem dX0_endsAt_18 : decode cX0_endsAt 18 = .ok (.ifCond .ne 10, 3) := by decide +kernel
theorem dX0_endsAt_21 : decode cX0_endsAt 21 = .ok (.aload_n 1, 1) := by decide +kernel
theorem dX0_endsAt_22 : decode cX0_endsAt 22 = .ok (.invokevirtual 112, 3) := by decide +kernel
theorem dX0_endsAt_25 : decode cX0_endsAt 25 = .ok (.ifCond .eq 14, 3) := by decide +kernel
theorem dX0_endsAt_28 : decode cX0_endsAt 28 = .ok (.iload_n 3, 1) := by decide +kernel
theorem dX0_endsAt_29 : decode cX0_endsAt 29 = .ok (.aload_n 0, 1) := by decide +kernel
theorem dX0_endsAt_30 : decode cX0_endsAt 30 = .ok (.getfield 38, 3) := by decide +kernel
theorem dX0_endsAt_33 : decode cX0_endsAt 33 = .ok (.iconst 1, 1) := by decide +kernel
theorem dX0_endsAt_34 : decode cX0_endsAt 34 = .ok (.iadd, 1) := by decide +kernel
theorem dX0_endsAt_35 : decode cX0_endsAt 35 = .ok (.invokestatic 118, 3) := by decide +kernel
theorem dX0_endsAt_38 : decode cX0_endsAt 38 = .ok (.istore_n 3, 1) := by decide +kernel
theorem dX0_endsAt_39 : decode cX0_endsAt 39 = .ok (.aload_n 0, 1) := by decide +kernel
theorem dX0_endsAt_40 : decode cX0_endsAt 40 = .ok (.iload_n 2, 1) := by decide +kernel
theorem dX0_endsAt_41 : decode cX0_endsAt 41 = .ok (.iload_n 3, 1) := by decide +kernel
theorem dX0_endsAt_42 : decode cX0_endsAt 42 = .ok (.iconst 4, 1) := by decide +kernel
theorem dX0_endsAt_43 : decode cX0_endsAt 43 = .ok (.invokevirtual 82, 3) := by decide +kernel
theorem dX0_endsAt_46 : decode cX0_endsAt 46 = .ok (.ireturn, 1) := by decide +kernel
theorem dX0_waitFor_0 : decode cX0_waitFor 0 = .ok (.iload_n 1, 1) := by decide +kernel
theorem dX0_waitFor_1 : decode cX0_waitFor 1 = .ok (.iload_n 2, 1) := by decide +kernel
theorem dX0_waitFor_2 : decode cX0_waitFor 2 = .ok (.invokestatic 118, 3) := by decide +kernel
theorem dX0_waitFor_5 : decode cX0_waitFor 5 = .ok (.istore 4, 2) := by decide +kernel
theorem dX0_waitFor_7 : decode cX0_waitFor 7 = .ok (.aload_n 0, 1) := by decide +kernel
theorem dX0_waitFor_8 : decode cX0_waitFor 8 = .ok (.getfield 15, 3) := by decide +kernel
theorem dX0_waitFor_11 : decode cX0_waitFor 11 = .ok (.iload_n 3, 1) := by decide +kernel
theorem dX0_waitFor_12 : decode cX0_waitFor 12 = .ok (.dup2, 1) := by decide +kernel
theorem dX0_waitFor_13 : decode cX0_waitFor 13 = .ok (.laload, 1) := by decide +kernel
theorem dX0_waitFor_14 : decode cX0_waitFor 14 = .ok (.iload 4, 2) := by decide +kernel
theorem dX0_waitFor_16 : decode cX0_waitFor 16 = .ok (.iload_n 1, 1) := by decide +kernel
theorem dX0_waitFor_17 : decode cX0_waitFor 17 = .ok (.isub, 1) := by decide +kernel
theorem dX0_waitFor_18 : decode cX0_waitFor 18 = .ok (.i2l, 1) := by decide +kernel
theorem dX0_waitFor_19 : decode cX0_waitFor 19 = .ok (.ladd, 1) := by decide +kernel
theorem dX0_waitFor_20 : decode cX0_waitFor 20 = .ok (.lastore, 1) := by decide +kernel
theorem dX0_waitFor_21 : decode cX0_waitFor 21 = .ok (.iload 4, 2) := by decide +kernel
theorem dX0_waitFor_23 : decode cX0_waitFor 23 = .ok (.ireturn, 1) := by decide +kernel
theorem dX0_reach_0 : decode cX0_reach 0 = .ok (.aload_n 0, 1) := by decide +kernel
theorem dX0_reach_1 : decode cX0_reach 1 = .ok (.aload_n 0, 1) := by decide +kernel
theorem dX0_reach_2 : decode cX0_reach 2 = .ok (.getfield 45, 3) := by decide +kernel
theorem dX0_reach_5 : decode cX0_reach 5 = .ok (.iload_n 1, 1) := by decide +kernel
theorem dX0_reach_6 : decode cX0_reach 6 = .ok (.invokestatic 118, 3) := by decide +kernel
theorem dX0_reach_9 : decode cX0_reach 9 = .ok (.putfield 45, 3) := by decide +kernel
theorem dX0_reach_12 : decode cX0_reach 12 = .ok (.return_, 1) := by decide +kernel
set_option maxRecDepth 20000 in
theorem ggX1_init_X5_init_1 : ∀ w ∈ ([.methodLink RX5 3 objectInit, .instanceMethod objectInit, .code objectInit ⟨#[0xb1]⟩ 1 none, .arrayClass .int, .fieldLink RX5 11 "ScoreboardCore$RegisterList" "numbers" "[I"] : List Cond), w ∈ wsX1_init := List.forall_mem_cons.mpr ⟨List.mem_of_getElem? (i := 11) rfl, List.forall_mem_cons.mpr ⟨List.mem_of_getElem? (i := 2) rfl, List.forall_mem_cons.mpr ⟨List.mem_of_getElem? (i := 3) rfl, List.forall_mem_cons.mpr ⟨List.mem_of_getElem? (i := 12) rfl, List.forall_mem_cons.mpr ⟨List.mem_of_getElem? (i := 13) rfl, fun _ h => nomatch h⟩⟩⟩⟩⟩
set_option maxRecDepth 20000 in
theorem ggX1_init_X5_init_2 : ∀ w ∈ wsX50, w ∈ wsX1_init := fun w h => List.mem_cons_of_mem _ (List.mem_append_left _ (List.mem_append_right _ (h)))
theorem ggX1_init_X5_init_m : ∀ w ∈ wsX5_init, w ∈ wsX1_init := fun w h => (List.mem_cons.mp h).elim (fun e => by rw [e]; exact List.mem_of_getElem? (i := 10) rfl) (fun h => (List.mem_append.mp h).elim (fun h => ggX1_init_X5_init_1 w h) (fun h => ggX1_init_X5_init_2 w h))
set_option maxRecDepth 20000 in
theorem ggX1_init_X5_init : GoodIn wsX1_init wsX5_init := goodIn_sub ggX1_init_X5_init_m (by decide +kernel)
theorem dX1_init_0 : decode cX1_init 0 = .ok (.aload_n 0, 1) := by decide +kernel
theorem dX1_init_1 : decode cX1_init 1 = .ok (.invokespecial 5, 3) := by decide +kernel
theorem dX1_init_4 : decode cX1_init 4 = .ok (.aload_n 0, 1) := by decide +kernel
theorem dX1_init_5 : decode cX1_init 5 = .ok (.new 11, 3) := by decide +kernel
theorem dX1_init_8 : decode cX1_init 8 = .ok (.dup, 1) := by decide +kernel
theorem dX1_init_9 : decode cX1_init 9 = .ok (.invokespecial 13, 3) := by decide +kernel
theorem dX1_init_12 : decode cX1_init 12 = .ok (.putfield 14, 3) := by decide +kernel
theorem dX1_init_15 : decode cX1_init 15 = .ok (.aload_n 0, 1) := by decide +kernel
theorem dX1_init_16 : decode cX1_init 16 = .ok (.new 11, 3) := by decide +kernel
theorem dX1_init_19 : decode cX1_init 19 = .ok (.dup, 1) := by decide +kernel
theorem dX1_init_20 : decode cX1_init 20 = .ok (.invokespecial 13, 3) := by decide +kernel
theorem dX1_init_23 : decode cX1_init 23 = .ok (.putfield 18, 3) := by decide +kernel
theorem dX1_init_26 : decode cX1_init 26 = .ok (.return_, 1) := by decide +kernel
set_option maxRecDepth 20000 in
theorem ggX1_decode_X1_unitOf_1 : ∀ w ∈ ([] : List Cond), w ∈ wsX1_decode := fun _ h => nomatch h
theorem ggX1_decode_X1_unitOf_m : ∀ w ∈ wsX1_unitOf, w ∈ wsX1_decode := fun w h => (List.mem_cons.mp h).elim (fun e => by rw [e]; exact List.mem_of_getElem? (i := 14) rfl) (fun h => ggX1_decode_X1_unitOf_1 w h)
set_option maxRecDepth 20000 in
theorem ggX1_decode_X1_unitOf : GoodIn wsX1_decode wsX1_unitOf := goodIn_sub ggX1_decode_X1_unitOf_m (by decide +kernel)
set_option maxRecDepth 20000 in
theorem ggX1_decode_X5_clear_1 : ∀ w ∈ ([.fieldLink RX5 15 "ScoreboardCore$RegisterList" "size" "I"] : List Cond), w ∈ wsX1_decode := List.forall_mem_cons.mpr ⟨List.mem_of_getElem? (i := 20) rfl, fun _ h => nomatch h⟩
set_option maxRecDepth 20000 in
theorem ggX1_decode_X5_clear_2 : ∀ w ∈ wsX50, w ∈ wsX1_decode := fun w h => List.mem_cons_of_mem _ (List.mem_append_right _ (h))
theorem ggX1_decode_X5_clear_m : ∀ w ∈ wsX5_clear, w ∈ wsX1_decode := fun w h => (List.mem_cons.mp h).elim (fun e => by rw [e]; exact List.mem_of_getElem? (i := 19) rfl) (fun h => (List.mem_append.mp h).elim (fun h => ggX1_decode_X5_clear_1 w h) (fun h => ggX1_decode_X5_clear_2 w h))
set_option maxRecDepth 20000 in
theorem ggX1_decode_X5_clear : GoodIn wsX1_decode wsX5_clear := goodIn_sub ggX1_decode_X5_clear_m (by decide +kernel)
set_option maxRecDepth 20000 in
theorem ggX1_decode_X1_listNeeds_1 : ∀ w ∈ (wsX1_listNeeds_r1 : List Cond), w ∈ wsX1_decode := List.forall_mem_cons.mpr ⟨List.mem_of_getElem? (i := 8) rfl, List.forall_mem_cons.mpr ⟨List.mem_of_getElem? (i := 9) rfl, List.forall_mem_cons.mpr ⟨List.mem_of_getElem? (i := 4) rfl, List.forall_mem_cons.mpr ⟨List.mem_of_getElem? (i := 5) rfl, List.forall_mem_cons.mpr ⟨List.mem_of_getElem? (i := 25) rfl, List.forall_mem_cons.mpr ⟨List.mem_of_getElem? (i := 26) rfl, List.forall_mem_cons.mpr ⟨List.mem_of_getElem? (i := 27) rfl, List.forall_mem_cons.mpr ⟨List.mem_of_getElem? (i := 13) rfl, List.forall_mem_cons.mpr ⟨List.mem_of_getElem? (i := 28) rfl, List.forall_mem_cons.mpr ⟨List.mem_of_getElem? (i := 2) rfl, List.forall_mem_cons.mpr ⟨List.mem_of_getElem? (i := 29) rfl, List.forall_mem_cons.mpr ⟨List.mem_of_getElem? (i := 30) rfl, List.forall_mem_cons.mpr ⟨List.mem_of_getElem? (i := 31) rfl, List.forall_mem_cons.mpr ⟨List.mem_of_getElem? (i := 18) rfl, List.forall_mem_cons.mpr ⟨List.mem_of_getElem? (i := 32) rfl, List.forall_mem_cons.mpr ⟨List.mem_of_getElem? (i := 33) rfl, List.forall_mem_cons.mpr ⟨List.mem_of_getElem? (i := 34) rfl, List.forall_mem_cons.mpr ⟨List.mem_of_getElem? (i := 35) rfl, List.forall_mem_cons.mpr ⟨List.mem_of_getElem? (i := 36) rfl, List.forall_mem_cons.mpr ⟨List.mem_of_getElem? (i := 20) rfl, List.forall_mem_cons.mpr ⟨List.mem_of_getElem? (i := 37) rfl, List.forall_mem_cons.mpr ⟨List.mem_of_getElem? (i := 38) rfl, List.forall_mem_cons.mpr ⟨List.mem_of_getElem? (i := 39) rfl, List.forall_mem_cons.mpr ⟨List.mem_of_getElem? (i := 40) rfl, fun _ h => nomatch h⟩⟩⟩⟩⟩⟩⟩⟩⟩⟩⟩⟩⟩⟩⟩⟩⟩⟩⟩⟩⟩⟩⟩⟩
set_option maxRecDepth 20000 in
theorem ggX1_decode_X1_listNeeds_2 : ∀ w ∈ (wsX1_listNeeds_r2 : List Cond), w ∈ wsX1_decode := List.forall_mem_cons.mpr ⟨List.mem_of_getElem? (i := 41) rfl, List.forall_mem_cons.mpr ⟨List.mem_of_getElem? (i := 3) rfl, List.forall_mem_cons.mpr ⟨List.mem_of_getElem? (i := 42) rfl, List.forall_mem_cons.mpr ⟨List.mem_of_getElem? (i := 43) rfl, List.forall_mem_cons.mpr ⟨List.mem_of_getElem? (i := 44) rfl, List.forall_mem_cons.mpr ⟨List.mem_of_getElem? (i := 45) rfl, List.forall_mem_cons.mpr ⟨List.mem_of_getElem? (i := 46) rfl, List.forall_mem_cons.mpr ⟨List.mem_of_getElem? (i := 47) rfl, List.forall_mem_cons.mpr ⟨List.mem_of_getElem? (i := 48) rfl, List.forall_mem_cons.mpr ⟨List.mem_of_getElem? (i := 49) rfl, List.forall_mem_cons.mpr ⟨List.mem_of_getElem? (i := 50) rfl, List.forall_mem_cons.mpr ⟨List.mem_of_getElem? (i := 51) rfl, List.forall_mem_cons.mpr ⟨List.mem_of_getElem? (i := 52) rfl, List.forall_mem_cons.mpr ⟨List.mem_of_getElem? (i := 53) rfl, List.forall_mem_cons.mpr ⟨List.mem_of_getElem? (i := 54) rfl, List.forall_mem_cons.mpr ⟨List.mem_of_getElem? (i := 55) rfl, List.forall_mem_cons.mpr ⟨List.mem_of_getElem? (i := 56) rfl, List.forall_mem_cons.mpr ⟨List.mem_of_getElem? (i := 57) rfl, List.forall_mem_cons.mpr ⟨List.mem_of_getElem? (i := 58) rfl, List.forall_mem_cons.mpr ⟨List.mem_of_getElem? (i := 59) rfl, List.forall_mem_cons.mpr ⟨List.mem_of_getElem? (i := 60) rfl, List.forall_mem_cons.mpr ⟨List.mem_of_getElem? (i := 61) rfl, List.forall_mem_cons.mpr ⟨List.mem_of_getElem? (i := 62) rfl, List.forall_mem_cons.mpr ⟨List.mem_of_getElem? (i := 63) rfl, fun _ h => nomatch h⟩⟩⟩⟩⟩⟩⟩⟩⟩⟩⟩⟩⟩⟩⟩⟩⟩⟩⟩⟩⟩⟩⟩⟩
set_option maxRecDepth 20000 in
theorem ggX1_decode_X1_listNeeds_3 : ∀ w ∈ (wsX1_listNeeds_r3 : List Cond), w ∈ wsX1_decode := List.forall_mem_cons.mpr ⟨List.mem_of_getElem? (i := 64) rfl, List.forall_mem_cons.mpr ⟨List.mem_of_getElem? (i := 65) rfl, List.forall_mem_cons.mpr ⟨List.mem_of_getElem? (i := 66) rfl, List.forall_mem_cons.mpr ⟨List.mem_of_getElem? (i := 67) rfl, List.forall_mem_cons.mpr ⟨List.mem_of_getElem? (i := 68) rfl, List.forall_mem_cons.mpr ⟨List.mem_of_getElem? (i := 69) rfl, fun _ h => nomatch h⟩⟩⟩⟩⟩⟩
set_option maxRecDepth 20000 in
theorem ggX1_decode_X1_listNeeds_4 : ∀ w ∈ wsX10, w ∈ wsX1_decode := fun w h => List.mem_cons_of_mem _ (List.mem_append_left _ (List.mem_append_right _ (h)))
set_option maxRecDepth 20000 in
theorem ggX1_decode_X1_listNeeds_5 : ∀ w ∈ wsX50, w ∈ wsX1_decode := fun w h => List.mem_cons_of_mem _ (List.mem_append_right _ (h))
theorem ggX1_decode_X1_listNeeds_m : ∀ w ∈ wsX1_listNeeds, w ∈ wsX1_decode := fun w h => (List.mem_cons.mp h).elim (fun e => by rw [e]; exact List.mem_of_getElem? (i := 24) rfl) (fun h => (List.mem_append.mp h).elim (fun h => (List.mem_append.mp h).elim (fun h => (List.mem_append.mp h).elim (fun h => ggX1_decode_X1_listNeeds_1 w h) (fun h => (List.mem_append.mp h).elim (fun h => ggX1_decode_X1_listNeeds_2 w h) (fun h => ggX1_decode_X1_listNeeds_3 w h))) (fun h => ggX1_decode_X1_listNeeds_4 w h)) (fun h => ggX1_decode_X1_listNeeds_5 w h))
set_option maxRecDepth 20000 in
theorem ggX1_decode_X1_listNeeds : GoodIn wsX1_decode wsX1_listNeeds := goodIn_sub ggX1_decode_X1_listNeeds_m (by decide +kernel)
set_option maxRecDepth 20000 in
theorem ggX1_decode_X1_listResults_1 : ∀ w ∈ (wsX1_listResults_r1 : List Cond), w ∈ wsX1_decode := List.forall_mem_cons.mpr ⟨List.mem_of_getElem? (i := 8) rfl, List.forall_mem_cons.mpr ⟨List.mem_of_getElem? (i := 2) rfl, List.forall_mem_cons.mpr ⟨List.mem_of_getElem? (i := 10) rfl, List.forall_mem_cons.mpr ⟨List.mem_of_getElem? (i := 3) rfl, List.forall_mem_cons.mpr ⟨List.mem_of_getElem? (i := 50) rfl, List.forall_mem_cons.mpr ⟨List.mem_of_getElem? (i := 51) rfl, List.forall_mem_cons.mpr ⟨List.mem_of_getElem? (i := 52) rfl, List.forall_mem_cons.mpr ⟨List.mem_of_getElem? (i := 18) rfl, List.forall_mem_cons.mpr ⟨List.mem_of_getElem? (i := 53) rfl, List.forall_mem_cons.mpr ⟨List.mem_of_getElem? (i := 33) rfl, List.forall_mem_cons.mpr ⟨List.mem_of_getElem? (i := 34) rfl, List.forall_mem_cons.mpr ⟨List.mem_of_getElem? (i := 35) rfl, List.forall_mem_cons.mpr ⟨List.mem_of_getElem? (i := 36) rfl, List.forall_mem_cons.mpr ⟨List.mem_of_getElem? (i := 20) rfl, List.forall_mem_cons.mpr ⟨List.mem_of_getElem? (i := 37) rfl, List.forall_mem_cons.mpr ⟨List.mem_of_getElem? (i := 74) rfl, List.forall_mem_cons.mpr ⟨List.mem_of_getElem? (i := 75) rfl, List.forall_mem_cons.mpr ⟨List.mem_of_getElem? (i := 76) rfl, List.forall_mem_cons.mpr ⟨List.mem_of_getElem? (i := 13) rfl, List.forall_mem_cons.mpr ⟨List.mem_of_getElem? (i := 77) rfl, List.forall_mem_cons.mpr ⟨List.mem_of_getElem? (i := 29) rfl, List.forall_mem_cons.mpr ⟨List.mem_of_getElem? (i := 30) rfl, List.forall_mem_cons.mpr ⟨List.mem_of_getElem? (i := 31) rfl, List.forall_mem_cons.mpr ⟨List.mem_of_getElem? (i := 32) rfl, fun _ h => nomatch h⟩⟩⟩⟩⟩⟩⟩⟩⟩⟩⟩⟩⟩⟩⟩⟩⟩⟩⟩⟩⟩⟩⟩⟩
set_option maxRecDepth 20000 in
theorem ggX1_decode_X1_listResults_2 : ∀ w ∈ (wsX1_listResults_r2 : List Cond), w ∈ wsX1_decode := List.forall_mem_cons.mpr ⟨List.mem_of_getElem? (i := 42) rfl, List.forall_mem_cons.mpr ⟨List.mem_of_getElem? (i := 43) rfl, List.forall_mem_cons.mpr ⟨List.mem_of_getElem? (i := 44) rfl, List.forall_mem_cons.mpr ⟨List.mem_of_getElem? (i := 45) rfl, fun _ h => nomatch h⟩⟩⟩⟩
set_option maxRecDepth 20000 in
theorem ggX1_decode_X1_listResults_3 : ∀ w ∈ wsX10, w ∈ wsX1_decode := fun w h => List.mem_cons_of_mem _ (List.mem_append_left _ (List.mem_append_right _ (h)))
set_option maxRecDepth 20000 in
theorem ggX1_decode_X1_listResults_4 : ∀ w ∈ wsX50, w ∈ wsX1_decode := fun w h => List.mem_cons_of_mem _ (List.mem_append_right _ (h))
theorem ggX1_decode_X1_listResults_m : ∀ w ∈ wsX1_listResults, w ∈ wsX1_decode := fun w h => (List.mem_cons.mp h).elim (fun e => by rw [e]; exact List.mem_of_getElem? (i := 73) rfl) (fun h => (List.mem_append.mp h).elim (fun h => (List.mem_append.mp h).elim (fun h => (List.mem_append.mp h).elim (fun h => ggX1_decode_X1_listResults_1 w h) (fun h => ggX1_decode_X1_listResults_2 w h)) (fun h => ggX1_decode_X1_listResults_3 w h)) (fun h => ggX1_decode_X1_listResults_4 w h))
set_option maxRecDepth 20000 in
theorem ggX1_decode_X1_listResults : GoodIn wsX1_decode wsX1_listResults := goodIn_sub ggX1_decode_X1_listResults_m (by decide +kernel)
theorem dX1_decode_0 : decode cX1_decode 0 = .ok (.aload_n 0, 1) := by decide +kernel
theorem dX1_decode_1 : decode cX1_decode 1 = .ok (.iconst 4, 1) := by decide +kernel
theorem dX1_decode_2 : decode cX1_decode 2 = .ok (.iload_n 3, 1) := by decide +kernel
theorem dX1_decode_3 : decode cX1_decode 3 = .ok (.isub, 1) := by decide +kernel
theorem dX1_decode_4 : decode cX1_decode 4 = .ok (.putfield 21, 3) := by decide +kernel
theorem dX1_decode_7 : decode cX1_decode 7 = .ok (.lload_n 1, 1) := by decide +kernel
theorem dX1_decode_8 : decode cX1_decode 8 = .ok (.bipush 15, 2) := by decide +kernel
theorem dX1_decode_10 : decode cX1_decode 10 = .ok (.aload_n 0, 1) := by decide +kernel
theorem dX1_decode_11 : decode cX1_decode 11 = .ok (.getfield 21, 3) := by decide +kernel
theorem dX1_decode_14 : decode cX1_decode 14 = .ok (.iconst 1, 1) := by decide +kernel
theorem dX1_decode_15 : decode cX1_decode 15 = .ok (.isub, 1) := by decide +kernel
theorem dX1_decode_16 : decode cX1_decode 16 = .ok (.imul, 1) := by decide +kernel
theorem dX1_decode_17 : decode cX1_decode 17 = .ok (.lshr, 1) := by decide +kernel
theorem dX1_decode_18 : decode cX1_decode 18 = .ok (.l2i, 1) := by decide +kernel
theorem dX1_decode_19 : decode cX1_decode 19 = .ok (.sipush 32767, 3) := by decide +kernel
theorem dX1_decode_22 : decode cX1_decode 22 = .ok (.iand, 1) := by decide +kernel
theorem dX1_decode_23 : decode cX1_decode 23 = .ok (.istore 4, 2) := by decide +kernel
theorem dX1_decode_25 : decode cX1_decode 25 = .ok (.aload_n 0, 1) := by decide +kernel
theorem dX1_decode_26 : decode cX1_decode 26 = .ok (.iload 4, 2) := by decide +kernel
theorem dX1_decode_28 : decode cX1_decode 28 = .ok (.bipush 9, 2) := by decide +kernel
theorem dX1_decode_30 : decode cX1_decode 30 = .ok (.ishr, 1) := by decide +kernel
theorem dX1_decode_31 : decode cX1_decode 31 = .ok (.putfield 25, 3) := by decide +kernel
theorem dX1_decode_34 : decode cX1_decode 34 = .ok (.aload_n 0, 1) := by decide +kernel
theorem dX1_decode_35 : decode cX1_decode 35 = .ok (.iload 4, 2) := by decide +kernel
theorem dX1_decode_37 : decode cX1_decode 37 = .ok (.bipush 6, 2) := by decide +kernel
theorem dX1_decode_39 : decode cX1_decode 39 = .ok (.ishr, 1) := by decide +kernel
theorem dX1_decode_40 : decode cX1_decode 40 = .ok (.bipush 7, 2) := by decide +kernel
theorem dX1_decode_42 : decode cX1_decode 42 = .ok (.iand, 1) := by decide +kernel
theorem dX1_decode_43 : decode cX1_decode 43 = .ok (.putfield 28, 3) := by decide +kernel
theorem dX1_decode_46 : decode cX1_decode 46 = .ok (.aload_n 0, 1) := by decide +kernel
theorem dX1_decode_47 : decode cX1_decode 47 = .ok (.iload 4, 2) := by decide +kernel
theorem dX1_decode_49 : decode cX1_decode 49 = .ok (.iconst 3, 1) := by decide +kernel
theorem dX1_decode_50 : decode cX1_decode 50 = .ok (.ishr, 1) := by decide +kernel
theorem dX1_decode_51 : decode cX1_decode 51 = .ok (.bipush 7, 2) := by decide +kernel
theorem dX1_decode_53 : decode cX1_decode 53 = .ok (.iand, 1) := by decide +kernel
theorem dX1_decode_54 : decode cX1_decode 54 = .ok (.putfield 31, 3) := by decide +kernel
theorem dX1_decode_57 : decode cX1_decode 57 = .ok (.aload_n 0, 1) := by decide +kernel
theorem dX1_decode_58 : decode cX1_decode 58 = .ok (.iload 4, 2) := by decide +kernel
theorem dX1_decode_60 : decode cX1_decode 60 = .ok (.bipush 7, 2) := by decide +kernel
theorem dX1_decode_62 : decode cX1_decode 62 = .ok (.iand, 1) := by decide +kernel
theorem dX1_decode_63 : decode cX1_decode 63 = .ok (.putfield 34, 3) := by decide +kernel
theorem dX1_decode_66 : decode cX1_decode 66 = .ok (.aload_n 0, 1) := by decide +kernel
theorem dX1_decode_67 : decode cX1_decode 67 = .ok (.aload_n 0, 1) := by decide +kernel
theorem dX1_decode_68 : decode cX1_decode 68 = .ok (.getfield 21, 3) := by decide +kernel
theorem dX1_decode_71 : decode cX1_decode 71 = .ok (.iconst 2, 1) := by decide +kernel
theorem dX1_decode_72 : decode cX1_decode 72 = .ok (.if_icmp .ge 7, 3) := by decide +kernel
theorem dX1_decode_75 : decode cX1_decode 75 = .ok (.iconst 0, 1) := by decide +kernel
theorem dX1_decode_76 : decode cX1_decode 76 = .ok (.goto 18, 3) := by decide +kernel
theorem dX1_decode_79 : decode cX1_decode 79 = .ok (.lload_n 1, 1) := by decide +kernel
theorem dX1_decode_80 : decode cX1_decode 80 = .ok (.bipush 15, 2) := by decide +kernel
theorem dX1_decode_82 : decode cX1_decode 82 = .ok (.aload_n 0, 1) := by decide +kernel
theorem dX1_decode_83 : decode cX1_decode 83 = .ok (.getfield 21, 3) := by decide +kernel
theorem dX1_decode_86 : decode cX1_decode 86 = .ok (.iconst 2, 1) := by decide +kernel
theorem dX1_decode_87 : decode cX1_decode 87 = .ok (.isub, 1) := by decide +kernel
theorem dX1_decode_88 : decode cX1_decode 88 = .ok (.imul, 1) := by decide +kernel
theorem dX1_decode_89 : decode cX1_decode 89 = .ok (.lshr, 1) := by decide +kernel
theorem dX1_decode_90 : decode cX1_decode 90 = .ok (.l2i, 1) := by decide +kernel
theorem dX1_decode_91 : decode cX1_decode 91 = .ok (.ldc 37, 2) := by decide +kernel
theorem dX1_decode_93 : decode cX1_decode 93 = .ok (.iand, 1) := by decide +kernel
theorem dX1_decode_94 : decode cX1_decode 94 = .ok (.putfield 38, 3) := by decide +kernel
theorem dX1_decode_97 : decode cX1_decode 97 = .ok (.aload_n 0, 1) := by decide +kernel
theorem dX1_decode_98 : decode cX1_decode 98 = .ok (.aload_n 0, 1) := by decide +kernel
theorem dX1_decode_99 : decode cX1_decode 99 = .ok (.getfield 25, 3) := by decide +kernel
theorem dX1_decode_102 : decode cX1_decode 102 = .ok (.invokestatic 41, 3) := by decide +kernel
theorem dX1_decode_105 : decode cX1_decode 105 = .ok (.putfield 45, 3) := by decide +kernel
theorem dX1_decode_108 : decode cX1_decode 108 = .ok (.aload_n 0, 1) := by decide +kernel
theorem dX1_decode_109 : decode cX1_decode 109 = .ok (.getfield 14, 3) := by decide +kernel
theorem dX1_decode_112 : decode cX1_decode 112 = .ok (.invokevirtual 48, 3) := by decide +kernel
theorem dX1_decode_115 : decode cX1_decode 115 = .ok (.aload_n 0, 1) := by decide +kernel
theorem dX1_decode_116 : decode cX1_decode 116 = .ok (.getfield 18, 3) := by decide +kernel
theorem dX1_decode_119 : decode cX1_decode 119 = .ok (.invokevirtual 48, 3) := by decide +kernel
theorem dX1_decode_122 : decode cX1_decode 122 = .ok (.aload_n 0, 1) := by decide +kernel
theorem dX1_decode_123 : decode cX1_decode 123 = .ok (.invokevirtual 51, 3) := by decide +kernel
theorem dX1_decode_126 : decode cX1_decode 126 = .ok (.aload_n 0, 1) := by decide +kernel
theorem dX1_decode_127 : decode cX1_decode 127 = .ok (.invokevirtual 54, 3) := by decide +kernel
theorem dX1_decode_130 : decode cX1_decode 130 = .ok (.return_, 1) := by decide +kernel
theorem dX1_op_0 : decode cX1_op 0 = .ok (.aload_n 0, 1) := by decide +kernel
theorem dX1_op_1 : decode cX1_op 1 = .ok (.getfield 25, 3) := by decide +kernel
theorem dX1_op_4 : decode cX1_op 4 = .ok (.ireturn, 1) := by decide +kernel
theorem dX1_i_0 : decode cX1_i 0 = .ok (.aload_n 0, 1) := by decide +kernel
theorem dX1_i_1 : decode cX1_i 1 = .ok (.getfield 28, 3) := by decide +kernel
theorem dX1_i_4 : decode cX1_i 4 = .ok (.ireturn, 1) := by decide +kernel
theorem dX1_j_0 : decode cX1_j 0 = .ok (.aload_n 0, 1) := by decide +kernel
theorem dX1_j_1 : decode cX1_j 1 = .ok (.getfield 31, 3) := by decide +kernel
theorem dX1_j_4 : decode cX1_j 4 = .ok (.ireturn, 1) := by decide +kernel
theorem dX1_k_0 : decode cX1_k 0 = .ok (.aload_n 0, 1) := by decide +kernel
theorem dX1_k_1 : decode cX1_k 1 = .ok (.getfield 34, 3) := by decide +kernel
theorem dX1_k_4 : decode cX1_k 4 = .ok (.ireturn, 1) := by decide +kernel
theorem dX1_jk_0 : decode cX1_jk 0 = .ok (.aload_n 0, 1) := by decide +kernel
theorem dX1_jk_1 : decode cX1_jk 1 = .ok (.getfield 31, 3) := by decide +kernel
theorem dX1_jk_4 : decode cX1_jk 4 = .ok (.iconst 3, 1) := by decide +kernel
theorem dX1_jk_5 : decode cX1_jk 5 = .ok (.ishl, 1) := by decide +kernel
theorem dX1_jk_6 : decode cX1_jk 6 = .ok (.aload_n 0, 1) := by decide +kernel
theorem dX1_jk_7 : decode cX1_jk 7 = .ok (.getfield 34, 3) := by decide +kernel
theorem dX1_jk_10 : decode cX1_jk 10 = .ok (.ior, 1) := by decide +kernel
theorem dX1_jk_11 : decode cX1_jk 11 = .ok (.ireturn, 1) := by decide +kernel
theorem dX1_constant_0 : decode cX1_constant 0 = .ok (.aload_n 0, 1) := by decide +kernel
theorem dX1_constant_1 : decode cX1_constant 1 = .ok (.getfield 38, 3) := by decide +kernel
theorem dX1_constant_4 : decode cX1_constant 4 = .ok (.ireturn, 1) := by decide +kernel
theorem dX1_unit_0 : decode cX1_unit 0 = .ok (.aload_n 0, 1) := by decide +kernel
theorem dX1_unit_1 : decode cX1_unit 1 = .ok (.getfield 45, 3) := by decide +kernel
theorem dX1_unit_4 : decode cX1_unit 4 = .ok (.ireturn, 1) := by decide +kernel
theorem dX1_needs_0 : decode cX1_needs 0 = .ok (.aload_n 0, 1) := by decide +kernel
theorem dX1_needs_1 : decode cX1_needs 1 = .ok (.getfield 14, 3) := by decide +kernel
theorem dX1_needs_4 : decode cX1_needs 4 = .ok (.areturn, 1) := by decide +kernel
theorem dX1_results_0 : decode cX1_results 0 = .ok (.aload_n 0, 1) := by decide +kernel
theorem dX1_results_1 : decode cX1_results 1 = .ok (.getfield 18, 3) := by decide +kernel
theorem dX1_results_4 : decode cX1_results 4 = .ok (.areturn, 1) := by decide +kernel
set_option maxRecDepth 20000 in
theorem ggX1_parcels_X1_isJump_1 : ∀ w ∈ ([.fieldLink RX1 25 "ScoreboardCore$Instruction" "op" "I"] : List Cond), w ∈ wsX1_parcels := List.forall_mem_cons.mpr ⟨List.mem_of_getElem? (i := 1) rfl, fun _ h => nomatch h⟩
set_option maxRecDepth 20000 in
theorem ggX1_parcels_X1_isJump_2 : ∀ w ∈ wsX10, w ∈ wsX1_parcels := fun w h => List.mem_cons_of_mem _ (List.mem_append_right _ (h))
theorem ggX1_parcels_X1_isJump_m : ∀ w ∈ wsX1_isJump, w ∈ wsX1_parcels := fun w h => (List.mem_cons.mp h).elim (fun e => by rw [e]; exact List.mem_of_getElem? (i := 6) rfl) (fun h => (List.mem_append.mp h).elim (fun h => ggX1_parcels_X1_isJump_1 w h) (fun h => ggX1_parcels_X1_isJump_2 w h))
set_option maxRecDepth 20000 in
theorem ggX1_parcels_X1_isJump : GoodIn wsX1_parcels wsX1_isJump := goodIn_sub ggX1_parcels_X1_isJump_m (by decide +kernel)
theorem dX1_parcels_0 : decode cX1_parcels 0 = .ok (.aload_n 0, 1) := by decide +kernel
theorem dX1_parcels_1 : decode cX1_parcels 1 = .ok (.invokevirtual 57, 3) := by decide +kernel
theorem dX1_parcels_4 : decode cX1_parcels 4 = .ok (.ifCond .ne 23, 3) := by decide +kernel
theorem dX1_parcels_7 : decode cX1_parcels 7 = .ok (.aload_n 0, 1) := by decide +kernel
theorem dX1_parcels_8 : decode cX1_parcels 8 = .ok (.getfield 25, 3) := by decide +kernel
theorem dX1_parcels_11 : decode cX1_parcels 11 = .ok (.bipush 40, 2) := by decide +kernel
theorem dX1_parcels_13 : decode cX1_parcels 13 = .ok (.if_icmp .lt 18, 3) := by decide +kernel
theorem dX1_parcels_16 : decode cX1_parcels 16 = .ok (.aload_n 0, 1) := by decide +kernel
theorem dX1_parcels_17 : decode cX1_parcels 17 = .ok (.getfield 25, 3) := by decide +kernel
theorem dX1_parcels_20 : decode cX1_parcels 20 = .ok (.bipush 7, 2) := by decide +kernel
theorem dX1_parcels_22 : decode cX1_parcels 22 = .ok (.iand, 1) := by decide +kernel
theorem dX1_parcels_23 : decode cX1_parcels 23 = .ok (.iconst 2, 1) := by decide +kernel
theorem dX1_parcels_24 : decode cX1_parcels 24 = .ok (.if_icmp .gt 7, 3) := by decide +kernel
theorem dX1_parcels_27 : decode cX1_parcels 27 = .ok (.iconst 1, 1) := by decide +kernel
theorem dX1_parcels_28 : decode cX1_parcels 28 = .ok (.goto 4, 3) := by decide +kernel
theorem dX1_parcels_31 : decode cX1_parcels 31 = .ok (.iconst 0, 1) := by decide +kernel
theorem dX1_parcels_32 : decode cX1_parcels 32 = .ok (.istore_n 1, 1) := by decide +kernel
theorem dX1_parcels_33 : decode cX1_parcels 33 = .ok (.iload_n 1, 1) := by decide +kernel
theorem dX1_parcels_34 : decode cX1_parcels 34 = .ok (.ifCond .eq 7, 3) := by decide +kernel
theorem dX1_parcels_37 : decode cX1_parcels 37 = .ok (.iconst 2, 1) := by decide +kernel
theorem dX1_parcels_38 : decode cX1_parcels 38 = .ok (.goto 4, 3) := by decide +kernel
theorem dX1_parcels_41 : decode cX1_parcels 41 = .ok (.iconst 1, 1) := by decide +kernel
theorem dX1_parcels_42 : decode cX1_parcels 42 = .ok (.ireturn, 1) := by decide +kernel
theorem dX1_isJump_0 : decode cX1_isJump 0 = .ok (.aload_n 0, 1) := by decide +kernel
theorem dX1_isJump_1 : decode cX1_isJump 1 = .ok (.getfield 25, 3) := by decide +kernel
theorem dX1_isJump_4 : decode cX1_isJump 4 = .ok (.ifCond .le 16, 3) := by decide +kernel
theorem dX1_isJump_7 : decode cX1_isJump 7 = .ok (.aload_n 0, 1) := by decide +kernel
theorem dX1_isJump_8 : decode cX1_isJump 8 = .ok (.getfield 25, 3) := by decide +kernel
theorem dX1_isJump_11 : decode cX1_isJump 11 = .ok (.bipush 7, 2) := by decide +kernel
theorem dX1_isJump_13 : decode cX1_isJump 13 = .ok (.if_icmp .gt 7, 3) := by decide +kernel
theorem dX1_isJump_16 : decode cX1_isJump 16 = .ok (.iconst 1, 1) := by decide +kernel
theorem dX1_isJump_17 : decode cX1_isJump 17 = .ok (.goto 4, 3) := by decide +kernel
theorem dX1_isJump_20 : decode cX1_isJump 20 = .ok (.iconst 0, 1) := by decide +kernel
theorem dX1_isJump_21 : decode cX1_isJump 21 = .ok (.ireturn, 1) := by decide +kernel
theorem dX1_loads_0 : decode cX1_loads 0 = .ok (.aload_n 0, 1) := by decide +kernel
theorem dX1_loads_1 : decode cX1_loads 1 = .ok (.getfield 25, 3) := by decide +kernel
theorem dX1_loads_4 : decode cX1_loads 4 = .ok (.iconst 3, 1) := by decide +kernel
theorem dX1_loads_5 : decode cX1_loads 5 = .ok (.ishr, 1) := by decide +kernel
theorem dX1_loads_6 : decode cX1_loads 6 = .ok (.iconst 5, 1) := by decide +kernel
theorem dX1_loads_7 : decode cX1_loads 7 = .ok (.if_icmp .ne 23, 3) := by decide +kernel
theorem dX1_loads_10 : decode cX1_loads 10 = .ok (.aload_n 0, 1) := by decide +kernel
theorem dX1_loads_11 : decode cX1_loads 11 = .ok (.getfield 28, 3) := by decide +kernel
theorem dX1_loads_14 : decode cX1_loads 14 = .ok (.iconst 1, 1) := by decide +kernel
theorem dX1_loads_15 : decode cX1_loads 15 = .ok (.if_icmp .lt 15, 3) := by decide +kernel
theorem dX1_loads_18 : decode cX1_loads 18 = .ok (.aload_n 0, 1) := by decide +kernel
theorem dX1_loads_19 : decode cX1_loads 19 = .ok (.getfield 28, 3) := by decide +kernel
theorem dX1_loads_22 : decode cX1_loads 22 = .ok (.iconst 5, 1) := by decide +kernel
theorem dX1_loads_23 : decode cX1_loads 23 = .ok (.if_icmp .gt 7, 3) := by decide +kernel
theorem dX1_loads_26 : decode cX1_loads 26 = .ok (.iconst 1, 1) := by decide +kernel
theorem dX1_loads_27 : decode cX1_loads 27 = .ok (.goto 4, 3) := by decide +kernel
theorem dX1_loads_30 : decode cX1_loads 30 = .ok (.iconst 0, 1) := by decide +kernel
theorem dX1_loads_31 : decode cX1_loads 31 = .ok (.ireturn, 1) := by decide +kernel
theorem dX1_stores_0 : decode cX1_stores 0 = .ok (.aload_n 0, 1) := by decide +kernel
theorem dX1_stores_1 : decode cX1_stores 1 = .ok (.getfield 25, 3) := by decide +kernel
theorem dX1_stores_4 : decode cX1_stores 4 = .ok (.iconst 3, 1) := by decide +kernel
theorem dX1_stores_5 : decode cX1_stores 5 = .ok (.ishr, 1) := by decide +kernel
theorem dX1_stores_6 : decode cX1_stores 6 = .ok (.iconst 5, 1) := by decide +kernel
theorem dX1_stores_7 : decode cX1_stores 7 = .ok (.if_icmp .ne 16, 3) := by decide +kernel
theorem dX1_stores_10 : decode cX1_stores 10 = .ok (.aload_n 0, 1) := by decide +kernel
theorem dX1_stores_11 : decode cX1_stores 11 = .ok (.getfield 28, 3) := by decide +kernel
theorem dX1_stores_14 : decode cX1_stores 14 = .ok (.bipush 6, 2) := by decide +kernel
theorem dX1_stores_16 : decode cX1_stores 16 = .ok (.if_icmp .lt 7, 3) := by decide +kernel
theorem dX1_stores_19 : decode cX1_stores 19 = .ok (.iconst 1, 1) := by decide +kernel
theorem dX1_stores_20 : decode cX1_stores 20 = .ok (.goto 4, 3) := by decide +kernel
theorem dX1_stores_23 : decode cX1_stores 23 = .ok (.iconst 0, 1) := by decide +kernel
theorem dX1_stores_24 : decode cX1_stores 24 = .ok (.ireturn, 1) := by decide +kernel
set_option maxRecDepth 20000 in
theorem ggX1_stopCode_X1_isJump_1 : ∀ w ∈ ([.fieldLink RX1 25 "ScoreboardCore$Instruction" "op" "I"] : List Cond), w ∈ wsX1_stopCode := List.forall_mem_cons.mpr ⟨List.mem_of_getElem? (i := 1) rfl, fun _ h => nomatch h⟩
set_option maxRecDepth 20000 in
theorem ggX1_stopCode_X1_isJump_2 : ∀ w ∈ wsX10, w ∈ wsX1_stopCode := fun w h => List.mem_cons_of_mem _ (List.mem_append_right _ (h))
theorem ggX1_stopCode_X1_isJump_m : ∀ w ∈ wsX1_isJump, w ∈ wsX1_stopCode := fun w h => (List.mem_cons.mp h).elim (fun e => by rw [e]; exact List.mem_of_getElem? (i := 9) rfl) (fun h => (List.mem_append.mp h).elim (fun h => ggX1_stopCode_X1_isJump_1 w h) (fun h => ggX1_stopCode_X1_isJump_2 w h))
set_option maxRecDepth 20000 in
theorem ggX1_stopCode_X1_isJump : GoodIn wsX1_stopCode wsX1_isJump := goodIn_sub ggX1_stopCode_X1_isJump_m (by decide +kernel)
set_option maxRecDepth 20000 in
theorem ggX1_stopCode_X1_parcels_1 : ∀ w ∈ ([.fieldLink RX1 25 "ScoreboardCore$Instruction" "op" "I", .methodLink RX1 57 yX1_isJump, .instanceMethod yX1_isJump, .selects RX1 yX1_isJump yX1_isJump, .initialized RX1, .code yX1_isJump cX1_isJump 1 (some .boolean)] : List Cond), w ∈ wsX1_stopCode := List.forall_mem_cons.mpr ⟨List.mem_of_getElem? (i := 1) rfl, List.forall_mem_cons.mpr ⟨List.mem_of_getElem? (i := 5) rfl, List.forall_mem_cons.mpr ⟨List.mem_of_getElem? (i := 6) rfl, List.forall_mem_cons.mpr ⟨List.mem_of_getElem? (i := 7) rfl, List.forall_mem_cons.mpr ⟨List.mem_of_getElem? (i := 8) rfl, List.forall_mem_cons.mpr ⟨List.mem_of_getElem? (i := 9) rfl, fun _ h => nomatch h⟩⟩⟩⟩⟩⟩
set_option maxRecDepth 20000 in
theorem ggX1_stopCode_X1_parcels_2 : ∀ w ∈ wsX10, w ∈ wsX1_stopCode := fun w h => List.mem_cons_of_mem _ (List.mem_append_right _ (h))
theorem ggX1_stopCode_X1_parcels_m : ∀ w ∈ wsX1_parcels, w ∈ wsX1_stopCode := fun w h => (List.mem_cons.mp h).elim (fun e => by rw [e]; exact List.mem_of_getElem? (i := 13) rfl) (fun h => (List.mem_append.mp h).elim (fun h => ggX1_stopCode_X1_parcels_1 w h) (fun h => ggX1_stopCode_X1_parcels_2 w h))
set_option maxRecDepth 20000 in
theorem ggX1_stopCode_X1_parcels : GoodIn wsX1_stopCode wsX1_parcels := goodIn_sub ggX1_stopCode_X1_parcels_m (by decide +kernel)
theorem dX1_stopCode_0 : decode cX1_stopCode 0 = .ok (.aload_n 0, 1) := by decide +kernel
theorem dX1_stopCode_1 : decode cX1_stopCode 1 = .ok (.getfield 25, 3) := by decide +kernel
theorem dX1_stopCode_4 : decode cX1_stopCode 4 = .ok (.ifCond .ne 5, 3) := by decide +kernel
theorem dX1_stopCode_7 : decode cX1_stopCode 7 = .ok (.iconst 0, 1) := by decide +kernel
theorem dX1_stopCode_8 : decode cX1_stopCode 8 = .ok (.ireturn, 1) := by decide +kernel
theorem dX1_stopCode_9 : decode cX1_stopCode 9 = .ok (.aload_n 0, 1) := by decide +kernel
theorem dX1_stopCode_10 : decode cX1_stopCode 10 = .ok (.invokevirtual 57, 3) := by decide +kernel
theorem dX1_stopCode_13 : decode cX1_stopCode 13 = .ok (.ifCond .ne 20, 3) := by decide +kernel
theorem dX1_stopCode_16 : decode cX1_stopCode 16 = .ok (.aload_n 0, 1) := by decide +kernel
theorem dX1_stopCode_17 : decode cX1_stopCode 17 = .ok (.getfield 45, 3) := by decide +kernel
theorem dX1_stopCode_20 : decode cX1_stopCode 20 = .ok (.iconst (-1), 1) := by decide +kernel
theorem dX1_stopCode_21 : decode cX1_stopCode 21 = .ok (.if_icmp .ne 12, 3) := by decide +kernel
theorem dX1_stopCode_24 : decode cX1_stopCode 24 = .ok (.aload_n 0, 1) := by decide +kernel
theorem dX1_stopCode_25 : decode cX1_stopCode 25 = .ok (.getfield 25, 3) := by decide +kernel
theorem dX1_stopCode_28 : decode cX1_stopCode 28 = .ok (.bipush 38, 2) := by decide +kernel
theorem dX1_stopCode_30 : decode cX1_stopCode 30 = .ok (.if_icmp .ne 7, 3) := by decide +kernel
theorem dX1_stopCode_33 : decode cX1_stopCode 33 = .ok (.iconst 1, 1) := by decide +kernel
theorem dX1_stopCode_34 : decode cX1_stopCode 34 = .ok (.goto 4, 3) := by decide +kernel
theorem dX1_stopCode_37 : decode cX1_stopCode 37 = .ok (.iconst 0, 1) := by decide +kernel
theorem dX1_stopCode_38 : decode cX1_stopCode 38 = .ok (.istore_n 1, 1) := by decide +kernel
theorem dX1_stopCode_39 : decode cX1_stopCode 39 = .ok (.aload_n 0, 1) := by decide +kernel
theorem dX1_stopCode_40 : decode cX1_stopCode 40 = .ok (.getfield 25, 3) := by decide +kernel
theorem dX1_stopCode_43 : decode cX1_stopCode 43 = .ok (.iconst 3, 1) := by decide +kernel
theorem dX1_stopCode_44 : decode cX1_stopCode 44 = .ok (.if_icmp .ne 15, 3) := by decide +kernel
theorem dX1_stopCode_47 : decode cX1_stopCode 47 = .ok (.aload_n 0, 1) := by decide +kernel
theorem dX1_stopCode_48 : decode cX1_stopCode 48 = .ok (.getfield 28, 3) := by decide +kernel
theorem dX1_stopCode_51 : decode cX1_stopCode 51 = .ok (.iconst 3, 1) := by decide +kernel
theorem dX1_stopCode_52 : decode cX1_stopCode 52 = .ok (.if_icmp .le 7, 3) := by decide +kernel
theorem dX1_stopCode_55 : decode cX1_stopCode 55 = .ok (.iconst 1, 1) := by decide +kernel
theorem dX1_stopCode_56 : decode cX1_stopCode 56 = .ok (.goto 4, 3) := by decide +kernel
theorem dX1_stopCode_59 : decode cX1_stopCode 59 = .ok (.iconst 0, 1) := by decide +kernel
theorem dX1_stopCode_60 : decode cX1_stopCode 60 = .ok (.istore_n 2, 1) := by decide +kernel
theorem dX1_stopCode_61 : decode cX1_stopCode 61 = .ok (.iload_n 1, 1) := by decide +kernel
theorem dX1_stopCode_62 : decode cX1_stopCode 62 = .ok (.ifCond .eq 22, 3) := by decide +kernel
theorem dX1_stopCode_65 : decode cX1_stopCode 65 = .ok (.iload_n 2, 1) := by decide +kernel
theorem dX1_stopCode_66 : decode cX1_stopCode 66 = .ok (.ifCond .ne 18, 3) := by decide +kernel
theorem dX1_stopCode_69 : decode cX1_stopCode 69 = .ok (.aload_n 0, 1) := by decide +kernel
theorem dX1_stopCode_70 : decode cX1_stopCode 70 = .ok (.invokevirtual 61, 3) := by decide +kernel
theorem dX1_stopCode_73 : decode cX1_stopCode 73 = .ok (.aload_n 0, 1) := by decide +kernel
theorem dX1_stopCode_74 : decode cX1_stopCode 74 = .ok (.getfield 21, 3) := by decide +kernel
theorem dX1_stopCode_77 : decode cX1_stopCode 77 = .ok (.if_icmp .gt 7, 3) := by decide +kernel
theorem dX1_stopCode_80 : decode cX1_stopCode 80 = .ok (.iconst 3, 1) := by decide +kernel
theorem dX1_stopCode_81 : decode cX1_stopCode 81 = .ok (.goto 4, 3) := by decide +kernel
theorem dX1_stopCode_84 : decode cX1_stopCode 84 = .ok (.iconst 1, 1) := by decide +kernel
theorem dX1_stopCode_85 : decode cX1_stopCode 85 = .ok (.ireturn, 1) := by decide +kernel
theorem dX1_unitOf_0 : decode cX1_unitOf 0 = .ok (.iload_n 0, 1) := by decide +kernel
theorem dX1_unitOf_1 : decode cX1_unitOf 1 = .ok (.bipush 40, 2) := by decide +kernel
theorem dX1_unitOf_3 : decode cX1_unitOf 3 = .ok (.if_icmp .lt 5, 3) := by decide +kernel
theorem dX1_unitOf_6 : decode cX1_unitOf 6 = .ok (.iconst 4, 1) := by decide +kernel
theorem dX1_unitOf_7 : decode cX1_unitOf 7 = .ok (.ireturn, 1) := by decide +kernel
theorem dX1_unitOf_8 : decode cX1_unitOf 8 = .ok (.iload_n 0, 1) := by decide +kernel
theorem dX1_unitOf_9 : decode cX1_unitOf 9 = .ok (.bipush 8, 2) := by decide +kernel
theorem dX1_unitOf_11 : decode cX1_unitOf 11 = .ok (.if_icmp .lt 11, 3) := by decide +kernel
theorem dX1_unitOf_14 : decode cX1_unitOf 14 = .ok (.iload_n 0, 1) := by decide +kernel
theorem dX1_unitOf_15 : decode cX1_unitOf 15 = .ok (.bipush 15, 2) := by decide +kernel
theorem dX1_unitOf_17 : decode cX1_unitOf 17 = .ok (.if_icmp .gt 5, 3) := by decide +kernel
theorem dX1_unitOf_20 : decode cX1_unitOf 20 = .ok (.iconst 0, 1) := by decide +kernel
theorem dX1_unitOf_21 : decode cX1_unitOf 21 = .ok (.ireturn, 1) := by decide +kernel
theorem dX1_unitOf_22 : decode cX1_unitOf 22 = .ok (.iload_n 0, 1) := by decide +kernel
theorem dX1_unitOf_23 : decode cX1_unitOf 23 = .ok (.bipush 16, 2) := by decide +kernel
theorem dX1_unitOf_25 : decode cX1_unitOf 25 = .ok (.if_icmp .lt 9, 3) := by decide +kernel
theorem dX1_unitOf_28 : decode cX1_unitOf 28 = .ok (.iload_n 0, 1) := by decide +kernel
theorem dX1_unitOf_29 : decode cX1_unitOf 29 = .ok (.bipush 19, 2) := by decide +kernel
theorem dX1_unitOf_31 : decode cX1_unitOf 31 = .ok (.if_icmp .le 9, 3) := by decide +kernel
theorem dX1_unitOf_34 : decode cX1_unitOf 34 = .ok (.iload_n 0, 1) := by decide +kernel
theorem dX1_unitOf_35 : decode cX1_unitOf 35 = .ok (.bipush 35, 2) := by decide +kernel
theorem dX1_unitOf_37 : decode cX1_unitOf 37 = .ok (.if_icmp .ne 5, 3) := by decide +kernel
theorem dX1_unitOf_40 : decode cX1_unitOf 40 = .ok (.iconst 1, 1) := by decide +kernel
theorem dX1_unitOf_41 : decode cX1_unitOf 41 = .ok (.ireturn, 1) := by decide +kernel
theorem dX1_unitOf_42 : decode cX1_unitOf 42 = .ok (.iload_n 0, 1) := by decide +kernel
theorem dX1_unitOf_43 : decode cX1_unitOf 43 = .ok (.bipush 30, 2) := by decide +kernel
theorem dX1_unitOf_45 : decode cX1_unitOf 45 = .ok (.if_icmp .eq 9, 3) := by decide +kernel
theorem dX1_unitOf_48 : decode cX1_unitOf 48 = .ok (.iload_n 0, 1) := by decide +kernel
theorem dX1_unitOf_49 : decode cX1_unitOf 49 = .ok (.bipush 31, 2) := by decide +kernel
theorem dX1_unitOf_51 : decode cX1_unitOf 51 = .ok (.if_icmp .ne 5, 3) := by decide +kernel
theorem dX1_unitOf_54 : decode cX1_unitOf 54 = .ok (.iconst 2, 1) := by decide +kernel
theorem dX1_unitOf_55 : decode cX1_unitOf 55 = .ok (.ireturn, 1) := by decide +kernel
theorem dX1_unitOf_56 : decode cX1_unitOf 56 = .ok (.iload_n 0, 1) := by decide +kernel
theorem dX1_unitOf_57 : decode cX1_unitOf 57 = .ok (.bipush 39, 2) := by decide +kernel
theorem dX1_unitOf_59 : decode cX1_unitOf 59 = .ok (.if_icmp .ne 7, 3) := by decide +kernel
theorem dX1_unitOf_62 : decode cX1_unitOf 62 = .ok (.iconst 3, 1) := by decide +kernel
theorem dX1_unitOf_63 : decode cX1_unitOf 63 = .ok (.goto 4, 3) := by decide +kernel
theorem dX1_unitOf_66 : decode cX1_unitOf 66 = .ok (.iconst (-1), 1) := by decide +kernel
theorem dX1_unitOf_67 : decode cX1_unitOf 67 = .ok (.ireturn, 1) := by decide +kernel
set_option maxRecDepth 20000 in
theorem ggX1_listNeeds_X1_listLogicNeeds_1 : ∀ w ∈ ([.fieldLink RX1 25 "ScoreboardCore$Instruction" "op" "I", .fieldLink RX1 14 "ScoreboardCore$Instruction" "needs" "LScoreboardCore$RegisterList;", .fieldLink RX1 31 "ScoreboardCore$Instruction" "j" "I", .fieldLink RX1 34 "ScoreboardCore$Instruction" "k" "I", .methodLink RX1 71 yX5_addX, .instanceMethod yX5_addX, .selects RX5 yX5_addX yX5_addX, .initialized RX5, .code yX5_addX cX5_addX 2 none, .methodLink RX5 19 yX5_add, .instanceMethod yX5_add, .selects RX5 yX5_add yX5_add, .code yX5_add cX5_add 2 none, .fieldLink RX5 15 "ScoreboardCore$RegisterList" "size" "I", .fieldLink RX5 11 "ScoreboardCore$RegisterList" "numbers" "[I"] : List Cond), w ∈ wsX1_listNeeds := List.forall_mem_cons.mpr ⟨List.mem_of_getElem? (i := 10) rfl, List.forall_mem_cons.mpr ⟨List.mem_of_getElem? (i := 2) rfl, List.forall_mem_cons.mpr ⟨List.mem_of_getElem? (i := 3) rfl, List.forall_mem_cons.mpr ⟨List.mem_of_getElem? (i := 4) rfl, List.forall_mem_cons.mpr ⟨List.mem_of_getElem? (i := 11) rfl, List.forall_mem_cons.mpr ⟨List.mem_of_getElem? (i := 12) rfl, List.forall_mem_cons.mpr ⟨List.mem_of_getElem? (i := 13) rfl, List.forall_mem_cons.mpr ⟨List.mem_of_getElem? (i := 14) rfl, List.forall_mem_cons.mpr ⟨List.mem_of_getElem? (i := 15) rfl, List.forall_mem_cons.mpr ⟨List.mem_of_getElem? (i := 16) rfl, List.forall_mem_cons.mpr ⟨List.mem_of_getElem? (i := 17) rfl, List.forall_mem_cons.mpr ⟨List.mem_of_getElem? (i := 18) rfl, List.forall_mem_cons.mpr ⟨List.mem_of_getElem? (i := 19) rfl, List.forall_mem_cons.mpr ⟨List.mem_of_getElem? (i := 20) rfl, List.forall_mem_cons.mpr ⟨List.mem_of_getElem? (i := 21) rfl, fun _ h => nomatch h⟩⟩⟩⟩⟩⟩⟩⟩⟩⟩⟩⟩⟩⟩⟩
set_option maxRecDepth 20000 in
theorem ggX1_listNeeds_X1_listLogicNeeds_2 : ∀ w ∈ wsX10, w ∈ wsX1_listNeeds := fun w h => List.mem_cons_of_mem _ (List.mem_append_left _ (List.mem_append_right _ (h)))
set_option maxRecDepth 20000 in
theorem ggX1_listNeeds_X1_listLogicNeeds_3 : ∀ w ∈ wsX50, w ∈ wsX1_listNeeds := fun w h => List.mem_cons_of_mem _ (List.mem_append_right _ (h))
theorem ggX1_listNeeds_X1_listLogicNeeds_m : ∀ w ∈ wsX1_listLogicNeeds, w ∈ wsX1_listNeeds := fun w h => (List.mem_cons.mp h).elim (fun e => by rw [e]; exact List.mem_of_getElem? (i := 9) rfl) (fun h => (List.mem_append.mp h).elim (fun h => (List.mem_append.mp h).elim (fun h => ggX1_listNeeds_X1_listLogicNeeds_1 w h) (fun h => ggX1_listNeeds_X1_listLogicNeeds_2 w h)) (fun h => ggX1_listNeeds_X1_listLogicNeeds_3 w h))
set_option maxRecDepth 20000 in
theorem ggX1_listNeeds_X1_listLogicNeeds : GoodIn wsX1_listNeeds wsX1_listLogicNeeds := goodIn_sub ggX1_listNeeds_X1_listLogicNeeds_m (by decide +kernel)
set_option maxRecDepth 20000 in
theorem ggX1_listNeeds_X1_listShiftNeeds_1 : ∀ w ∈ ([.fieldLink RX1 25 "ScoreboardCore$Instruction" "op" "I", .fieldLink RX1 14 "ScoreboardCore$Instruction" "needs" "LScoreboardCore$RegisterList;", .fieldLink RX1 28 "ScoreboardCore$Instruction" "i" "I", .fieldLink RX1 31 "ScoreboardCore$Instruction" "j" "I", .fieldLink RX1 34 "ScoreboardCore$Instruction" "k" "I", .methodLink RX1 71 yX5_addX, .instanceMethod yX5_addX, .selects RX5 yX5_addX yX5_addX, .initialized RX5, .code yX5_addX cX5_addX 2 none, .methodLink RX5 19 yX5_add, .instanceMethod yX5_add, .selects RX5 yX5_add yX5_add, .code yX5_add cX5_add 2 none, .fieldLink RX5 15 "ScoreboardCore$RegisterList" "size" "I", .fieldLink RX5 11 "ScoreboardCore$RegisterList" "numbers" "[I", .methodLink RX1 81 yX5_addB, .instanceMethod yX5_addB, .selects RX5 yX5_addB yX5_addB, .code yX5_addB cX5_addB 2 none] : List Cond), w ∈ wsX1_listNeeds := List.forall_mem_cons.mpr ⟨List.mem_of_getElem? (i := 10) rfl, List.forall_mem_cons.mpr ⟨List.mem_of_getElem? (i := 2) rfl, List.forall_mem_cons.mpr ⟨List.mem_of_getElem? (i := 26) rfl, List.forall_mem_cons.mpr ⟨List.mem_of_getElem? (i := 3) rfl, List.forall_mem_cons.mpr ⟨List.mem_of_getElem? (i := 4) rfl, List.forall_mem_cons.mpr ⟨List.mem_of_getElem? (i := 11) rfl, List.forall_mem_cons.mpr ⟨List.mem_of_getElem? (i := 12) rfl, List.forall_mem_cons.mpr ⟨List.mem_of_getElem? (i := 13) rfl, List.forall_mem_cons.mpr ⟨List.mem_of_getElem? (i := 14) rfl, List.forall_mem_cons.mpr ⟨List.mem_of_getElem? (i := 15) rfl, List.forall_mem_cons.mpr ⟨List.mem_of_getElem? (i := 16) rfl, List.forall_mem_cons.mpr ⟨List.mem_of_getElem? (i := 17) rfl, List.forall_mem_cons.mpr ⟨List.mem_of_getElem? (i := 18) rfl, List.forall_mem_cons.mpr ⟨List.mem_of_getElem? (i := 19) rfl, List.forall_mem_cons.mpr ⟨List.mem_of_getElem? (i := 20) rfl, List.forall_mem_cons.mpr ⟨List.mem_of_getElem? (i := 21) rfl, List.forall_mem_cons.mpr ⟨List.mem_of_getElem? (i := 27) rfl, List.forall_mem_cons.mpr ⟨List.mem_of_getElem? (i := 28) rfl, List.forall_mem_cons.mpr ⟨List.mem_of_getElem? (i := 29) rfl, List.forall_mem_cons.mpr ⟨List.mem_of_getElem? (i := 30) rfl, fun _ h => nomatch h⟩⟩⟩⟩⟩⟩⟩⟩⟩⟩⟩⟩⟩⟩⟩⟩⟩⟩⟩⟩
set_option maxRecDepth 20000 in
theorem ggX1_listNeeds_X1_listShiftNeeds_2 : ∀ w ∈ wsX10, w ∈ wsX1_listNeeds := fun w h => List.mem_cons_of_mem _ (List.mem_append_left _ (List.mem_append_right _ (h)))
set_option maxRecDepth 20000 in
theorem ggX1_listNeeds_X1_listShiftNeeds_3 : ∀ w ∈ wsX50, w ∈ wsX1_listNeeds := fun w h => List.mem_cons_of_mem _ (List.mem_append_right _ (h))
theorem ggX1_listNeeds_X1_listShiftNeeds_m : ∀ w ∈ wsX1_listShiftNeeds, w ∈ wsX1_listNeeds := fun w h => (List.mem_cons.mp h).elim (fun e => by rw [e]; exact List.mem_of_getElem? (i := 25) rfl) (fun h => (List.mem_append.mp h).elim (fun h => (List.mem_append.mp h).elim (fun h => ggX1_listNeeds_X1_listShiftNeeds_1 w h) (fun h => ggX1_listNeeds_X1_listShiftNeeds_2 w h)) (fun h => ggX1_listNeeds_X1_listShiftNeeds_3 w h))
set_option maxRecDepth 20000 in
theorem ggX1_listNeeds_X1_listShiftNeeds : GoodIn wsX1_listNeeds wsX1_listShiftNeeds := goodIn_sub ggX1_listNeeds_X1_listShiftNeeds_m (by decide +kernel)
set_option maxRecDepth 20000 in
theorem ggX1_listNeeds_X5_addX_1 : ∀ w ∈ ([.methodLink RX5 19 yX5_add, .instanceMethod yX5_add, .selects RX5 yX5_add yX5_add, .initialized RX5, .code yX5_add cX5_add 2 none, .fieldLink RX5 15 "ScoreboardCore$RegisterList" "size" "I", .fieldLink RX5 11 "ScoreboardCore$RegisterList" "numbers" "[I"] : List Cond), w ∈ wsX1_listNeeds := List.forall_mem_cons.mpr ⟨List.mem_of_getElem? (i := 16) rfl, List.forall_mem_cons.mpr ⟨List.mem_of_getElem? (i := 17) rfl, List.forall_mem_cons.mpr ⟨List.mem_of_getElem? (i := 18) rfl, List.forall_mem_cons.mpr ⟨List.mem_of_getElem? (i := 14) rfl, List.forall_mem_cons.mpr ⟨List.mem_of_getElem? (i := 19) rfl, List.forall_mem_cons.mpr ⟨List.mem_of_getElem? (i := 20) rfl, List.forall_mem_cons.mpr ⟨List.mem_of_getElem? (i := 21) rfl, fun _ h => nomatch h⟩⟩⟩⟩⟩⟩⟩
set_option maxRecDepth 20000 in
theorem ggX1_listNeeds_X5_addX_2 : ∀ w ∈ wsX50, w ∈ wsX1_listNeeds := fun w h => List.mem_cons_of_mem _ (List.mem_append_right _ (h))
theorem ggX1_listNeeds_X5_addX_m : ∀ w ∈ wsX5_addX, w ∈ wsX1_listNeeds := fun w h => (List.mem_cons.mp h).elim (fun e => by rw [e]; exact List.mem_of_getElem? (i := 15) rfl) (fun h => (List.mem_append.mp h).elim (fun h => ggX1_listNeeds_X5_addX_1 w h) (fun h => ggX1_listNeeds_X5_addX_2 w h))
set_option maxRecDepth 20000 in
theorem ggX1_listNeeds_X5_addX : GoodIn wsX1_listNeeds wsX5_addX := goodIn_sub ggX1_listNeeds_X5_addX_m (by decide +kernel)
set_option maxRecDepth 20000 in
theorem ggX1_listNeeds_X1_listAddressNeeds_1 : ∀ w ∈ (wsX1_listAddressNeeds_r1 : List Cond), w ∈ wsX1_listNeeds := List.forall_mem_cons.mpr ⟨List.mem_of_getElem? (i := 10) rfl, List.forall_mem_cons.mpr ⟨List.mem_of_getElem? (i := 2) rfl, List.forall_mem_cons.mpr ⟨List.mem_of_getElem? (i := 3) rfl, List.forall_mem_cons.mpr ⟨List.mem_of_getElem? (i := 4) rfl, List.forall_mem_cons.mpr ⟨List.mem_of_getElem? (i := 26) rfl, List.forall_mem_cons.mpr ⟨List.mem_of_getElem? (i := 35) rfl, List.forall_mem_cons.mpr ⟨List.mem_of_getElem? (i := 36) rfl, List.forall_mem_cons.mpr ⟨List.mem_of_getElem? (i := 37) rfl, List.forall_mem_cons.mpr ⟨List.mem_of_getElem? (i := 14) rfl, List.forall_mem_cons.mpr ⟨List.mem_of_getElem? (i := 38) rfl, List.forall_mem_cons.mpr ⟨List.mem_of_getElem? (i := 16) rfl, List.forall_mem_cons.mpr ⟨List.mem_of_getElem? (i := 17) rfl, List.forall_mem_cons.mpr ⟨List.mem_of_getElem? (i := 18) rfl, List.forall_mem_cons.mpr ⟨List.mem_of_getElem? (i := 19) rfl, List.forall_mem_cons.mpr ⟨List.mem_of_getElem? (i := 20) rfl, List.forall_mem_cons.mpr ⟨List.mem_of_getElem? (i := 21) rfl, List.forall_mem_cons.mpr ⟨List.mem_of_getElem? (i := 11) rfl, List.forall_mem_cons.mpr ⟨List.mem_of_getElem? (i := 12) rfl, List.forall_mem_cons.mpr ⟨List.mem_of_getElem? (i := 13) rfl, List.forall_mem_cons.mpr ⟨List.mem_of_getElem? (i := 15) rfl, List.forall_mem_cons.mpr ⟨List.mem_of_getElem? (i := 27) rfl, List.forall_mem_cons.mpr ⟨List.mem_of_getElem? (i := 28) rfl, List.forall_mem_cons.mpr ⟨List.mem_of_getElem? (i := 29) rfl, List.forall_mem_cons.mpr ⟨List.mem_of_getElem? (i := 30) rfl, fun _ h => nomatch h⟩⟩⟩⟩⟩⟩⟩⟩⟩⟩⟩⟩⟩⟩⟩⟩⟩⟩⟩⟩⟩⟩⟩⟩
set_option maxRecDepth 20000 in
theorem ggX1_listNeeds_X1_listAddressNeeds_2 : ∀ w ∈ (wsX1_listAddressNeeds_r2 : List Cond), w ∈ wsX1_listNeeds := List.forall_mem_cons.mpr ⟨List.mem_of_getElem? (i := 39) rfl, List.forall_mem_cons.mpr ⟨List.mem_of_getElem? (i := 40) rfl, List.forall_mem_cons.mpr ⟨List.mem_of_getElem? (i := 41) rfl, List.forall_mem_cons.mpr ⟨List.mem_of_getElem? (i := 8) rfl, List.forall_mem_cons.mpr ⟨List.mem_of_getElem? (i := 42) rfl, List.forall_mem_cons.mpr ⟨List.mem_of_getElem? (i := 43) rfl, List.forall_mem_cons.mpr ⟨List.mem_of_getElem? (i := 44) rfl, List.forall_mem_cons.mpr ⟨List.mem_of_getElem? (i := 45) rfl, List.forall_mem_cons.mpr ⟨List.mem_of_getElem? (i := 46) rfl, List.forall_mem_cons.mpr ⟨List.mem_of_getElem? (i := 47) rfl, List.forall_mem_cons.mpr ⟨List.mem_of_getElem? (i := 48) rfl, List.forall_mem_cons.mpr ⟨List.mem_of_getElem? (i := 49) rfl, List.forall_mem_cons.mpr ⟨List.mem_of_getElem? (i := 50) rfl, fun _ h => nomatch h⟩⟩⟩⟩⟩⟩⟩⟩⟩⟩⟩⟩⟩
set_option maxRecDepth 20000 in
theorem ggX1_listNeeds_X1_listAddressNeeds_3 : ∀ w ∈ wsX10, w ∈ wsX1_listNeeds := fun w h => List.mem_cons_of_mem _ (List.mem_append_left _ (List.mem_append_right _ (h)))
set_option maxRecDepth 20000 in
theorem ggX1_listNeeds_X1_listAddressNeeds_4 : ∀ w ∈ wsX50, w ∈ wsX1_listNeeds := fun w h => List.mem_cons_of_mem _ (List.mem_append_right _ (h))
theorem ggX1_listNeeds_X1_listAddressNeeds_m : ∀ w ∈ wsX1_listAddressNeeds, w ∈ wsX1_listNeeds := fun w h => (List.mem_cons.mp h).elim (fun e => by rw [e]; exact List.mem_of_getElem? (i := 34) rfl) (fun h => (List.mem_append.mp h).elim (fun h => (List.mem_append.mp h).elim (fun h => (List.mem_append.mp h).elim (fun h => ggX1_listNeeds_X1_listAddressNeeds_1 w h) (fun h => ggX1_listNeeds_X1_listAddressNeeds_2 w h)) (fun h => ggX1_listNeeds_X1_listAddressNeeds_3 w h)) (fun h => ggX1_listNeeds_X1_listAddressNeeds_4 w h))
set_option maxRecDepth 20000 in
theorem ggX1_listNeeds_X1_listAddressNeeds : GoodIn wsX1_listNeeds wsX1_listAddressNeeds := goodIn_sub ggX1_listNeeds_X1_listAddressNeeds_m (by decide +kernel)
set_option maxRecDepth 20000 in
theorem ggX1_listNeeds_X1_listJumpNeeds_1 : ∀ w ∈ ([.fieldLink RX1 25 "ScoreboardCore$Instruction" "op" "I", .fieldLink RX1 14 "ScoreboardCore$Instruction" "needs" "LScoreboardCore$RegisterList;", .fieldLink RX1 31 "ScoreboardCore$Instruction" "j" "I", .fieldLink RX1 28 "ScoreboardCore$Instruction" "i" "I", .methodLink RX1 71 yX5_addX, .instanceMethod yX5_addX, .selects RX5 yX5_addX yX5_addX, .initialized RX5, .code yX5_addX cX5_addX 2 none, .methodLink RX5 19 yX5_add, .instanceMethod yX5_add, .selects RX5 yX5_add yX5_add, .code yX5_add cX5_add 2 none, .fieldLink RX5 15 "ScoreboardCore$RegisterList" "size" "I", .fieldLink RX5 11 "ScoreboardCore$RegisterList" "numbers" "[I", .methodLink RX1 81 yX5_addB, .instanceMethod yX5_addB, .selects RX5 yX5_addB yX5_addB, .code yX5_addB cX5_addB 2 none] : List Cond), w ∈ wsX1_listNeeds := List.forall_mem_cons.mpr ⟨List.mem_of_getElem? (i := 10) rfl, List.forall_mem_cons.mpr ⟨List.mem_of_getElem? (i := 2) rfl, List.forall_mem_cons.mpr ⟨List.mem_of_getElem? (i := 3) rfl, List.forall_mem_cons.mpr ⟨List.mem_of_getElem? (i := 26) rfl, List.forall_mem_cons.mpr ⟨List.mem_of_getElem? (i := 11) rfl, List.forall_mem_cons.mpr ⟨List.mem_of_getElem? (i := 12) rfl, List.forall_mem_cons.mpr ⟨List.mem_of_getElem? (i := 13) rfl, List.forall_mem_cons.mpr ⟨List.mem_of_getElem? (i := 14) rfl, List.forall_mem_cons.mpr ⟨List.mem_of_getElem? (i := 15) rfl, List.forall_mem_cons.mpr ⟨List.mem_of_getElem? (i := 16) rfl, List.forall_mem_cons.mpr ⟨List.mem_of_getElem? (i := 17) rfl, List.forall_mem_cons.mpr ⟨List.mem_of_getElem? (i := 18) rfl, List.forall_mem_cons.mpr ⟨List.mem_of_getElem? (i := 19) rfl, List.forall_mem_cons.mpr ⟨List.mem_of_getElem? (i := 20) rfl, List.forall_mem_cons.mpr ⟨List.mem_of_getElem? (i := 21) rfl, List.forall_mem_cons.mpr ⟨List.mem_of_getElem? (i := 27) rfl, List.forall_mem_cons.mpr ⟨List.mem_of_getElem? (i := 28) rfl, List.forall_mem_cons.mpr ⟨List.mem_of_getElem? (i := 29) rfl, List.forall_mem_cons.mpr ⟨List.mem_of_getElem? (i := 30) rfl, fun _ h => nomatch h⟩⟩⟩⟩⟩⟩⟩⟩⟩⟩⟩⟩⟩⟩⟩⟩⟩⟩⟩
set_option maxRecDepth 20000 in
theorem ggX1_listNeeds_X1_listJumpNeeds_2 : ∀ w ∈ wsX10, w ∈ wsX1_listNeeds := fun w h => List.mem_cons_of_mem _ (List.mem_append_left _ (List.mem_append_right _ (h)))
set_option maxRecDepth 20000 in
theorem ggX1_listNeeds_X1_listJumpNeeds_3 : ∀ w ∈ wsX50, w ∈ wsX1_listNeeds := fun w h => List.mem_cons_of_mem _ (List.mem_append_right _ (h))
theorem ggX1_listNeeds_X1_listJumpNeeds_m : ∀ w ∈ wsX1_listJumpNeeds, w ∈ wsX1_listNeeds := fun w h => (List.mem_cons.mp h).elim (fun e => by rw [e]; exact List.mem_of_getElem? (i := 54) rfl) (fun h => (List.mem_append.mp h).elim (fun h => (List.mem_append.mp h).elim (fun h => ggX1_listNeeds_X1_listJumpNeeds_1 w h) (fun h => ggX1_listNeeds_X1_listJumpNeeds_2 w h)) (fun h => ggX1_listNeeds_X1_listJumpNeeds_3 w h))
set_option maxRecDepth 20000 in
theorem ggX1_listNeeds_X1_listJumpNeeds : GoodIn wsX1_listNeeds wsX1_listJumpNeeds := goodIn_sub ggX1_listNeeds_X1_listJumpNeeds_m (by decide +kernel)
theorem dX1_listNeeds_0 : decode cX1_listNeeds 0 = .ok (.aload_n 0, 1) := by decide +kernel
theorem dX1_listNeeds_1 : decode cX1_listNeeds 1 = .ok (.getfield 45, 3) := by decide +kernel
theorem dX1_listNeeds_4 : decode cX1_listNeeds 4 = .ok (.tableswitch 96 0 4 #[36, 43, 50, 75, 89], 36) := by decide +kernel
theorem dX1_listNeeds_40 : decode cX1_listNeeds 40 = .ok (.aload_n 0, 1) := by decide +kernel
theorem dX1_listNeeds_41 : decode cX1_listNeeds 41 = .ok (.invokevirtual 65, 3) := by decide +kernel
theorem dX1_listNeeds_44 : decode cX1_listNeeds 44 = .ok (.goto 60, 3) := by decide +kernel
theorem dX1_listNeeds_47 : decode cX1_listNeeds 47 = .ok (.aload_n 0, 1) := by decide +kernel
theorem dX1_listNeeds_48 : decode cX1_listNeeds 48 = .ok (.invokevirtual 68, 3) := by decide +kernel
theorem dX1_listNeeds_51 : decode cX1_listNeeds 51 = .ok (.goto 53, 3) := by decide +kernel
theorem dX1_listNeeds_54 : decode cX1_listNeeds 54 = .ok (.aload_n 0, 1) := by decide +kernel
theorem dX1_listNeeds_55 : decode cX1_listNeeds 55 = .ok (.getfield 14, 3) := by decide +kernel
theorem dX1_listNeeds_58 : decode cX1_listNeeds 58 = .ok (.aload_n 0, 1) := by decide +kernel
theorem dX1_listNeeds_59 : decode cX1_listNeeds 59 = .ok (.getfield 31, 3) := by decide +kernel
theorem dX1_listNeeds_62 : decode cX1_listNeeds 62 = .ok (.invokevirtual 71, 3) := by decide +kernel
theorem dX1_listNeeds_65 : decode cX1_listNeeds 65 = .ok (.aload_n 0, 1) := by decide +kernel
theorem dX1_listNeeds_66 : decode cX1_listNeeds 66 = .ok (.getfield 14, 3) := by decide +kernel
theorem dX1_listNeeds_69 : decode cX1_listNeeds 69 = .ok (.aload_n 0, 1) := by decide +kernel
theorem dX1_listNeeds_70 : decode cX1_listNeeds 70 = .ok (.getfield 34, 3) := by decide +kernel
theorem dX1_listNeeds_73 : decode cX1_listNeeds 73 = .ok (.invokevirtual 71, 3) := by decide +kernel
theorem dX1_listNeeds_76 : decode cX1_listNeeds 76 = .ok (.goto 28, 3) := by decide +kernel
theorem dX1_listNeeds_79 : decode cX1_listNeeds 79 = .ok (.aload_n 0, 1) := by decide +kernel
theorem dX1_listNeeds_80 : decode cX1_listNeeds 80 = .ok (.getfield 14, 3) := by decide +kernel
theorem dX1_listNeeds_83 : decode cX1_listNeeds 83 = .ok (.aload_n 0, 1) := by decide +kernel
theorem dX1_listNeeds_84 : decode cX1_listNeeds 84 = .ok (.getfield 34, 3) := by decide +kernel
theorem dX1_listNeeds_87 : decode cX1_listNeeds 87 = .ok (.invokevirtual 71, 3) := by decide +kernel
theorem dX1_listNeeds_90 : decode cX1_listNeeds 90 = .ok (.goto 14, 3) := by decide +kernel
theorem dX1_listNeeds_93 : decode cX1_listNeeds 93 = .ok (.aload_n 0, 1) := by decide +kernel
theorem dX1_listNeeds_94 : decode cX1_listNeeds 94 = .ok (.invokevirtual 75, 3) := by decide +kernel
theorem dX1_listNeeds_97 : decode cX1_listNeeds 97 = .ok (.goto 7, 3) := by decide +kernel
theorem dX1_listNeeds_100 : decode cX1_listNeeds 100 = .ok (.aload_n 0, 1) := by decide +kernel
theorem dX1_listNeeds_101 : decode cX1_listNeeds 101 = .ok (.invokevirtual 78, 3) := by decide +kernel
theorem dX1_listNeeds_104 : decode cX1_listNeeds 104 = .ok (.return_, 1) := by decide +kernel
set_option maxRecDepth 20000 in
theorem ggX1_listLogicNeeds_X5_addX_1 : ∀ w ∈ ([.methodLink RX5 19 yX5_add, .instanceMethod yX5_add, .selects RX5 yX5_add yX5_add, .initialized RX5, .code yX5_add cX5_add 2 none, .fieldLink RX5 15 "ScoreboardCore$RegisterList" "size" "I", .fieldLink RX5 11 "ScoreboardCore$RegisterList" "numbers" "[I"] : List Cond), w ∈ wsX1_listLogicNeeds := List.forall_mem_cons.mpr ⟨List.mem_of_getElem? (i := 10) rfl, List.forall_mem_cons.mpr ⟨List.mem_of_getElem? (i := 11) rfl, List.forall_mem_cons.mpr ⟨List.mem_of_getElem? (i := 12) rfl, List.forall_mem_cons.mpr ⟨List.mem_of_getElem? (i := 8) rfl, List.forall_mem_cons.mpr ⟨List.mem_of_getElem? (i := 13) rfl, List.forall_mem_cons.mpr ⟨List.mem_of_getElem? (i := 14) rfl, List.forall_mem_cons.mpr ⟨List.mem_of_getElem? (i := 15) rfl, fun _ h => nomatch h⟩⟩⟩⟩⟩⟩⟩
set_option maxRecDepth 20000 in
theorem ggX1_listLogicNeeds_X5_addX_2 : ∀ w ∈ wsX50, w ∈ wsX1_listLogicNeeds := fun w h => List.mem_cons_of_mem _ (List.mem_append_right _ (h))
theorem ggX1_listLogicNeeds_X5_addX_m : ∀ w ∈ wsX5_addX, w ∈ wsX1_listLogicNeeds := fun w h => (List.mem_cons.mp h).elim (fun e => by rw [e]; exact List.mem_of_getElem? (i := 9) rfl) (fun h => (List.mem_append.mp h).elim (fun h => ggX1_listLogicNeeds_X5_addX_1 w h) (fun h => ggX1_listLogicNeeds_X5_addX_2 w h))
set_option maxRecDepth 20000 in
theorem ggX1_listLogicNeeds_X5_addX : GoodIn wsX1_listLogicNeeds wsX5_addX := goodIn_sub ggX1_listLogicNeeds_X5_addX_m (by decide +kernel)
theorem dX1_listLogicNeeds_0 : decode cX1_listLogicNeeds 0 = .ok (.aload_n 0, 1) := by decide +kernel
theorem dX1_listLogicNeeds_1 : decode cX1_listLogicNeeds 1 = .ok (.getfield 25, 3) := by decide +kernel
theorem dX1_listLogicNeeds_4 : decode cX1_listLogicNeeds 4 = .ok (.bipush 12, 2) := by decide +kernel
theorem dX1_listLogicNeeds_6 : decode cX1_listLogicNeeds 6 = .ok (.if_icmp .eq 14, 3) := by decide +kernel
theorem dX1_listLogicNeeds_9 : decode cX1_listLogicNeeds 9 = .ok (.aload_n 0, 1) := by decide +kernel
theorem dX1_listLogicNeeds_10 : decode cX1_listLogicNeeds 10 = .ok (.getfield 14, 3) := by decide +kernel
theorem dX1_listLogicNeeds_13 : decode cX1_listLogicNeeds 13 = .ok (.aload_n 0, 1) := by decide +kernel
theorem dX1_listLogicNeeds_14 : decode cX1_listLogicNeeds 14 = .ok (.getfield 31, 3) := by decide +kernel
theorem dX1_listLogicNeeds_17 : decode cX1_listLogicNeeds 17 = .ok (.invokevirtual 71, 3) := by decide +kernel
theorem dX1_listLogicNeeds_20 : decode cX1_listLogicNeeds 20 = .ok (.aload_n 0, 1) := by decide +kernel
theorem dX1_listLogicNeeds_21 : decode cX1_listLogicNeeds 21 = .ok (.getfield 25, 3) := by decide +kernel
theorem dX1_listLogicNeeds_24 : decode cX1_listLogicNeeds 24 = .ok (.bipush 8, 2) := by decide +kernel
theorem dX1_listLogicNeeds_26 : decode cX1_listLogicNeeds 26 = .ok (.if_icmp .eq 14, 3) := by decide +kernel
theorem dX1_listLogicNeeds_29 : decode cX1_listLogicNeeds 29 = .ok (.aload_n 0, 1) := by decide +kernel
theorem dX1_listLogicNeeds_30 : decode cX1_listLogicNeeds 30 = .ok (.getfield 14, 3) := by decide +kernel
theorem dX1_listLogicNeeds_33 : decode cX1_listLogicNeeds 33 = .ok (.aload_n 0, 1) := by decide +kernel
theorem dX1_listLogicNeeds_34 : decode cX1_listLogicNeeds 34 = .ok (.getfield 34, 3) := by decide +kernel
theorem dX1_listLogicNeeds_37 : decode cX1_listLogicNeeds 37 = .ok (.invokevirtual 71, 3) := by decide +kernel
theorem dX1_listLogicNeeds_40 : decode cX1_listLogicNeeds 40 = .ok (.return_, 1) := by decide +kernel
set_option maxRecDepth 20000 in
theorem ggX1_listShiftNeeds_X5_addX_1 : ∀ w ∈ ([.methodLink RX5 19 yX5_add, .instanceMethod yX5_add, .selects RX5 yX5_add yX5_add, .initialized RX5, .code yX5_add cX5_add 2 none, .fieldLink RX5 15 "ScoreboardCore$RegisterList" "size" "I", .fieldLink RX5 11 "ScoreboardCore$RegisterList" "numbers" "[I"] : List Cond), w ∈ wsX1_listShiftNeeds := List.forall_mem_cons.mpr ⟨List.mem_of_getElem? (i := 11) rfl, List.forall_mem_cons.mpr ⟨List.mem_of_getElem? (i := 12) rfl, List.forall_mem_cons.mpr ⟨List.mem_of_getElem? (i := 13) rfl, List.forall_mem_cons.mpr ⟨List.mem_of_getElem? (i := 9) rfl, List.forall_mem_cons.mpr ⟨List.mem_of_getElem? (i := 14) rfl, List.forall_mem_cons.mpr ⟨List.mem_of_getElem? (i := 15) rfl, List.forall_mem_cons.mpr ⟨List.mem_of_getElem? (i := 16) rfl, fun _ h => nomatch h⟩⟩⟩⟩⟩⟩⟩
set_option maxRecDepth 20000 in
theorem ggX1_listShiftNeeds_X5_addX_2 : ∀ w ∈ wsX50, w ∈ wsX1_listShiftNeeds := fun w h => List.mem_cons_of_mem _ (List.mem_append_right _ (h))
theorem ggX1_listShiftNeeds_X5_addX_m : ∀ w ∈ wsX5_addX, w ∈ wsX1_listShiftNeeds := fun w h => (List.mem_cons.mp h).elim (fun e => by rw [e]; exact List.mem_of_getElem? (i := 10) rfl) (fun h => (List.mem_append.mp h).elim (fun h => ggX1_listShiftNeeds_X5_addX_1 w h) (fun h => ggX1_listShiftNeeds_X5_addX_2 w h))
set_option maxRecDepth 20000 in
theorem ggX1_listShiftNeeds_X5_addX : GoodIn wsX1_listShiftNeeds wsX5_addX := goodIn_sub ggX1_listShiftNeeds_X5_addX_m (by decide +kernel)
set_option maxRecDepth 20000 in
theorem ggX1_listShiftNeeds_X5_addB_1 : ∀ w ∈ ([.methodLink RX5 19 yX5_add, .instanceMethod yX5_add, .selects RX5 yX5_add yX5_add, .initialized RX5, .code yX5_add cX5_add 2 none, .fieldLink RX5 15 "ScoreboardCore$RegisterList" "size" "I", .fieldLink RX5 11 "ScoreboardCore$RegisterList" "numbers" "[I"] : List Cond), w ∈ wsX1_listShiftNeeds := List.forall_mem_cons.mpr ⟨List.mem_of_getElem? (i := 11) rfl, List.forall_mem_cons.mpr ⟨List.mem_of_getElem? (i := 12) rfl, List.forall_mem_cons.mpr ⟨List.mem_of_getElem? (i := 13) rfl, List.forall_mem_cons.mpr ⟨List.mem_of_getElem? (i := 9) rfl, List.forall_mem_cons.mpr ⟨List.mem_of_getElem? (i := 14) rfl, List.forall_mem_cons.mpr ⟨List.mem_of_getElem? (i := 15) rfl, List.forall_mem_cons.mpr ⟨List.mem_of_getElem? (i := 16) rfl, fun _ h => nomatch h⟩⟩⟩⟩⟩⟩⟩
set_option maxRecDepth 20000 in
theorem ggX1_listShiftNeeds_X5_addB_2 : ∀ w ∈ wsX50, w ∈ wsX1_listShiftNeeds := fun w h => List.mem_cons_of_mem _ (List.mem_append_right _ (h))
theorem ggX1_listShiftNeeds_X5_addB_m : ∀ w ∈ wsX5_addB, w ∈ wsX1_listShiftNeeds := fun w h => (List.mem_cons.mp h).elim (fun e => by rw [e]; exact List.mem_of_getElem? (i := 20) rfl) (fun h => (List.mem_append.mp h).elim (fun h => ggX1_listShiftNeeds_X5_addB_1 w h) (fun h => ggX1_listShiftNeeds_X5_addB_2 w h))
set_option maxRecDepth 20000 in
theorem ggX1_listShiftNeeds_X5_addB : GoodIn wsX1_listShiftNeeds wsX5_addB := goodIn_sub ggX1_listShiftNeeds_X5_addB_m (by decide +kernel)
theorem dX1_listShiftNeeds_0 : decode cX1_listShiftNeeds 0 = .ok (.aload_n 0, 1) := by decide +kernel
theorem dX1_listShiftNeeds_1 : decode cX1_listShiftNeeds 1 = .ok (.getfield 25, 3) := by decide +kernel
theorem dX1_listShiftNeeds_4 : decode cX1_listShiftNeeds 4 = .ok (.bipush 16, 2) := by decide +kernel
theorem dX1_listShiftNeeds_6 : decode cX1_listShiftNeeds 6 = .ok (.if_icmp .eq 12, 3) := by decide +kernel
theorem dX1_listShiftNeeds_9 : decode cX1_listShiftNeeds 9 = .ok (.aload_n 0, 1) := by decide +kernel
theorem dX1_listShiftNeeds_10 : decode cX1_listShiftNeeds 10 = .ok (.getfield 25, 3) := by decide +kernel
theorem dX1_listShiftNeeds_13 : decode cX1_listShiftNeeds 13 = .ok (.bipush 17, 2) := by decide +kernel
theorem dX1_listShiftNeeds_15 : decode cX1_listShiftNeeds 15 = .ok (.if_icmp .ne 17, 3) := by decide +kernel
theorem dX1_listShiftNeeds_18 : decode cX1_listShiftNeeds 18 = .ok (.aload_n 0, 1) := by decide +kernel
theorem dX1_listShiftNeeds_19 : decode cX1_listShiftNeeds 19 = .ok (.getfield 14, 3) := by decide +kernel
theorem dX1_listShiftNeeds_22 : decode cX1_listShiftNeeds 22 = .ok (.aload_n 0, 1) := by decide +kernel
theorem dX1_listShiftNeeds_23 : decode cX1_listShiftNeeds 23 = .ok (.getfield 28, 3) := by decide +kernel
theorem dX1_listShiftNeeds_26 : decode cX1_listShiftNeeds 26 = .ok (.invokevirtual 71, 3) := by decide +kernel
theorem dX1_listShiftNeeds_29 : decode cX1_listShiftNeeds 29 = .ok (.goto 43, 3) := by decide +kernel
theorem dX1_listShiftNeeds_32 : decode cX1_listShiftNeeds 32 = .ok (.aload_n 0, 1) := by decide +kernel
theorem dX1_listShiftNeeds_33 : decode cX1_listShiftNeeds 33 = .ok (.getfield 25, 3) := by decide +kernel
theorem dX1_listShiftNeeds_36 : decode cX1_listShiftNeeds 36 = .ok (.bipush 18, 2) := by decide +kernel
theorem dX1_listShiftNeeds_38 : decode cX1_listShiftNeeds 38 = .ok (.if_icmp .eq 12, 3) := by decide +kernel
theorem dX1_listShiftNeeds_41 : decode cX1_listShiftNeeds 41 = .ok (.aload_n 0, 1) := by decide +kernel
theorem dX1_listShiftNeeds_42 : decode cX1_listShiftNeeds 42 = .ok (.getfield 25, 3) := by decide +kernel
theorem dX1_listShiftNeeds_45 : decode cX1_listShiftNeeds 45 = .ok (.bipush 19, 2) := by decide +kernel
theorem dX1_listShiftNeeds_47 : decode cX1_listShiftNeeds 47 = .ok (.if_icmp .ne 25, 3) := by decide +kernel
theorem dX1_listShiftNeeds_50 : decode cX1_listShiftNeeds 50 = .ok (.aload_n 0, 1) := by decide +kernel
theorem dX1_listShiftNeeds_51 : decode cX1_listShiftNeeds 51 = .ok (.getfield 14, 3) := by decide +kernel
theorem dX1_listShiftNeeds_54 : decode cX1_listShiftNeeds 54 = .ok (.aload_n 0, 1) := by decide +kernel
theorem dX1_listShiftNeeds_55 : decode cX1_listShiftNeeds 55 = .ok (.getfield 31, 3) := by decide +kernel
theorem dX1_listShiftNeeds_58 : decode cX1_listShiftNeeds 58 = .ok (.invokevirtual 81, 3) := by decide +kernel
theorem dX1_listShiftNeeds_61 : decode cX1_listShiftNeeds 61 = .ok (.aload_n 0, 1) := by decide +kernel
theorem dX1_listShiftNeeds_62 : decode cX1_listShiftNeeds 62 = .ok (.getfield 14, 3) := by decide +kernel
theorem dX1_listShiftNeeds_65 : decode cX1_listShiftNeeds 65 = .ok (.aload_n 0, 1) := by decide +kernel
theorem dX1_listShiftNeeds_66 : decode cX1_listShiftNeeds 66 = .ok (.getfield 34, 3) := by decide +kernel
theorem dX1_listShiftNeeds_69 : decode cX1_listShiftNeeds 69 = .ok (.invokevirtual 71, 3) := by decide +kernel
theorem dX1_listShiftNeeds_72 : decode cX1_listShiftNeeds 72 = .ok (.return_, 1) := by decide +kernel
set_option maxRecDepth 20000 in
theorem ggX1_listAddressNeeds_X5_addA_1 : ∀ w ∈ ([.methodLink RX5 19 yX5_add, .instanceMethod yX5_add, .selects RX5 yX5_add yX5_add, .initialized RX5, .code yX5_add cX5_add 2 none, .fieldLink RX5 15 "ScoreboardCore$RegisterList" "size" "I", .fieldLink RX5 11 "ScoreboardCore$RegisterList" "numbers" "[I"] : List Cond), w ∈ wsX1_listAddressNeeds := List.forall_mem_cons.mpr ⟨List.mem_of_getElem? (i := 11) rfl, List.forall_mem_cons.mpr ⟨List.mem_of_getElem? (i := 12) rfl, List.forall_mem_cons.mpr ⟨List.mem_of_getElem? (i := 13) rfl, List.forall_mem_cons.mpr ⟨List.mem_of_getElem? (i := 9) rfl, List.forall_mem_cons.mpr ⟨List.mem_of_getElem? (i := 14) rfl, List.forall_mem_cons.mpr ⟨List.mem_of_getElem? (i := 15) rfl, List.forall_mem_cons.mpr ⟨List.mem_of_getElem? (i := 16) rfl, fun _ h => nomatch h⟩⟩⟩⟩⟩⟩⟩
set_option maxRecDepth 20000 in
theorem ggX1_listAddressNeeds_X5_addA_2 : ∀ w ∈ wsX50, w ∈ wsX1_listAddressNeeds := fun w h => List.mem_cons_of_mem _ (List.mem_append_right _ (h))
theorem ggX1_listAddressNeeds_X5_addA_m : ∀ w ∈ wsX5_addA, w ∈ wsX1_listAddressNeeds := fun w h => (List.mem_cons.mp h).elim (fun e => by rw [e]; exact List.mem_of_getElem? (i := 10) rfl) (fun h => (List.mem_append.mp h).elim (fun h => ggX1_listAddressNeeds_X5_addA_1 w h) (fun h => ggX1_listAddressNeeds_X5_addA_2 w h))
set_option maxRecDepth 20000 in
theorem ggX1_listAddressNeeds_X5_addA : GoodIn wsX1_listAddressNeeds wsX5_addA := goodIn_sub ggX1_listAddressNeeds_X5_addA_m (by decide +kernel)
set_option maxRecDepth 20000 in
theorem ggX1_listAddressNeeds_X5_addX_1 : ∀ w ∈ ([.methodLink RX5 19 yX5_add, .instanceMethod yX5_add, .selects RX5 yX5_add yX5_add, .initialized RX5, .code yX5_add cX5_add 2 none, .fieldLink RX5 15 "ScoreboardCore$RegisterList" "size" "I", .fieldLink RX5 11 "ScoreboardCore$RegisterList" "numbers" "[I"] : List Cond), w ∈ wsX1_listAddressNeeds := List.forall_mem_cons.mpr ⟨List.mem_of_getElem? (i := 11) rfl, List.forall_mem_cons.mpr ⟨List.mem_of_getElem? (i := 12) rfl, List.forall_mem_cons.mpr ⟨List.mem_of_getElem? (i := 13) rfl, List.forall_mem_cons.mpr ⟨List.mem_of_getElem? (i := 9) rfl, List.forall_mem_cons.mpr ⟨List.mem_of_getElem? (i := 14) rfl, List.forall_mem_cons.mpr ⟨List.mem_of_getElem? (i := 15) rfl, List.forall_mem_cons.mpr ⟨List.mem_of_getElem? (i := 16) rfl, fun _ h => nomatch h⟩⟩⟩⟩⟩⟩⟩
set_option maxRecDepth 20000 in
theorem ggX1_listAddressNeeds_X5_addX_2 : ∀ w ∈ wsX50, w ∈ wsX1_listAddressNeeds := fun w h => List.mem_cons_of_mem _ (List.mem_append_right _ (h))
theorem ggX1_listAddressNeeds_X5_addX_m : ∀ w ∈ wsX5_addX, w ∈ wsX1_listAddressNeeds := fun w h => (List.mem_cons.mp h).elim (fun e => by rw [e]; exact List.mem_of_getElem? (i := 20) rfl) (fun h => (List.mem_append.mp h).elim (fun h => ggX1_listAddressNeeds_X5_addX_1 w h) (fun h => ggX1_listAddressNeeds_X5_addX_2 w h))
set_option maxRecDepth 20000 in
theorem ggX1_listAddressNeeds_X5_addX : GoodIn wsX1_listAddressNeeds wsX5_addX := goodIn_sub ggX1_listAddressNeeds_X5_addX_m (by decide +kernel)
set_option maxRecDepth 20000 in
theorem ggX1_listAddressNeeds_X5_addB_1 : ∀ w ∈ ([.methodLink RX5 19 yX5_add, .instanceMethod yX5_add, .selects RX5 yX5_add yX5_add, .initialized RX5, .code yX5_add cX5_add 2 none, .fieldLink RX5 15 "ScoreboardCore$RegisterList" "size" "I", .fieldLink RX5 11 "ScoreboardCore$RegisterList" "numbers" "[I"] : List Cond), w ∈ wsX1_listAddressNeeds := List.forall_mem_cons.mpr ⟨List.mem_of_getElem? (i := 11) rfl, List.forall_mem_cons.mpr ⟨List.mem_of_getElem? (i := 12) rfl, List.forall_mem_cons.mpr ⟨List.mem_of_getElem? (i := 13) rfl, List.forall_mem_cons.mpr ⟨List.mem_of_getElem? (i := 9) rfl, List.forall_mem_cons.mpr ⟨List.mem_of_getElem? (i := 14) rfl, List.forall_mem_cons.mpr ⟨List.mem_of_getElem? (i := 15) rfl, List.forall_mem_cons.mpr ⟨List.mem_of_getElem? (i := 16) rfl, fun _ h => nomatch h⟩⟩⟩⟩⟩⟩⟩
set_option maxRecDepth 20000 in
theorem ggX1_listAddressNeeds_X5_addB_2 : ∀ w ∈ wsX50, w ∈ wsX1_listAddressNeeds := fun w h => List.mem_cons_of_mem _ (List.mem_append_right _ (h))
theorem ggX1_listAddressNeeds_X5_addB_m : ∀ w ∈ wsX5_addB, w ∈ wsX1_listAddressNeeds := fun w h => (List.mem_cons.mp h).elim (fun e => by rw [e]; exact List.mem_of_getElem? (i := 24) rfl) (fun h => (List.mem_append.mp h).elim (fun h => ggX1_listAddressNeeds_X5_addB_1 w h) (fun h => ggX1_listAddressNeeds_X5_addB_2 w h))
set_option maxRecDepth 20000 in
theorem ggX1_listAddressNeeds_X5_addB : GoodIn wsX1_listAddressNeeds wsX5_addB := goodIn_sub ggX1_listAddressNeeds_X5_addB_m (by decide +kernel)
set_option maxRecDepth 20000 in
theorem ggX1_listAddressNeeds_X1_parcels_1 : ∀ w ∈ ([.fieldLink RX1 25 "ScoreboardCore$Instruction" "op" "I", .methodLink RX1 57 yX1_isJump, .instanceMethod yX1_isJump, .selects RX1 yX1_isJump yX1_isJump, .initialized RX1, .code yX1_isJump cX1_isJump 1 (some .boolean)] : List Cond), w ∈ wsX1_listAddressNeeds := List.forall_mem_cons.mpr ⟨List.mem_of_getElem? (i := 1) rfl, List.forall_mem_cons.mpr ⟨List.mem_of_getElem? (i := 30) rfl, List.forall_mem_cons.mpr ⟨List.mem_of_getElem? (i := 31) rfl, List.forall_mem_cons.mpr ⟨List.mem_of_getElem? (i := 32) rfl, List.forall_mem_cons.mpr ⟨List.mem_of_getElem? (i := 28) rfl, List.forall_mem_cons.mpr ⟨List.mem_of_getElem? (i := 33) rfl, fun _ h => nomatch h⟩⟩⟩⟩⟩⟩
set_option maxRecDepth 20000 in
theorem ggX1_listAddressNeeds_X1_parcels_2 : ∀ w ∈ wsX10, w ∈ wsX1_listAddressNeeds := fun w h => List.mem_cons_of_mem _ (List.mem_append_left _ (List.mem_append_right _ (h)))
theorem ggX1_listAddressNeeds_X1_parcels_m : ∀ w ∈ wsX1_parcels, w ∈ wsX1_listAddressNeeds := fun w h => (List.mem_cons.mp h).elim (fun e => by rw [e]; exact List.mem_of_getElem? (i := 29) rfl) (fun h => (List.mem_append.mp h).elim (fun h => ggX1_listAddressNeeds_X1_parcels_1 w h) (fun h => ggX1_listAddressNeeds_X1_parcels_2 w h))
set_option maxRecDepth 20000 in
theorem ggX1_listAddressNeeds_X1_parcels : GoodIn wsX1_listAddressNeeds wsX1_parcels := goodIn_sub ggX1_listAddressNeeds_X1_parcels_m (by decide +kernel)
set_option maxRecDepth 20000 in
theorem ggX1_listAddressNeeds_X1_stores_1 : ∀ w ∈ ([.fieldLink RX1 25 "ScoreboardCore$Instruction" "op" "I", .fieldLink RX1 28 "ScoreboardCore$Instruction" "i" "I"] : List Cond), w ∈ wsX1_listAddressNeeds := List.forall_mem_cons.mpr ⟨List.mem_of_getElem? (i := 1) rfl, List.forall_mem_cons.mpr ⟨List.mem_of_getElem? (i := 5) rfl, fun _ h => nomatch h⟩⟩
set_option maxRecDepth 20000 in
theorem ggX1_listAddressNeeds_X1_stores_2 : ∀ w ∈ wsX10, w ∈ wsX1_listAddressNeeds := fun w h => List.mem_cons_of_mem _ (List.mem_append_left _ (List.mem_append_right _ (h)))
theorem ggX1_listAddressNeeds_X1_stores_m : ∀ w ∈ wsX1_stores, w ∈ wsX1_listAddressNeeds := fun w h => (List.mem_cons.mp h).elim (fun e => by rw [e]; exact List.mem_of_getElem? (i := 37) rfl) (fun h => (List.mem_append.mp h).elim (fun h => ggX1_listAddressNeeds_X1_stores_1 w h) (fun h => ggX1_listAddressNeeds_X1_stores_2 w h))
set_option maxRecDepth 20000 in
theorem ggX1_listAddressNeeds_X1_stores : GoodIn wsX1_listAddressNeeds wsX1_stores := goodIn_sub ggX1_listAddressNeeds_X1_stores_m (by decide +kernel)
theorem dX1_listAddressNeeds_0 : decode cX1_listAddressNeeds 0 = .ok (.aload_n 0, 1) := by decide +kernel
theorem dX1_listAddressNeeds_1 : decode cX1_listAddressNeeds 1 = .ok (.getfield 25, 3) := by decide +kernel
theorem dX1_listAddressNeeds_4 : decode cX1_listAddressNeeds 4 = .ok (.bipush 7, 2) := by decide +kernel
theorem dX1_listAddressNeeds_6 : decode cX1_listAddressNeeds 6 = .ok (.iand, 1) := by decide +kernel
theorem dX1_listAddressNeeds_7 : decode cX1_listAddressNeeds 7 = .ok (.tableswitch 65 0 5 #[37, 65, 51, 51, 37, 37], 37) := by decide +kernel
theorem dX1_listAddressNeeds_44 : decode cX1_listAddressNeeds 44 = .ok (.aload_n 0, 1) := by decide +kernel
theorem dX1_listAddressNeeds_45 : decode cX1_listAddressNeeds 45 = .ok (.getfield 14, 3) := by decide +kernel
theorem dX1_listAddressNeeds_48 : decode cX1_listAddressNeeds 48 = .ok (.aload_n 0, 1) := by decide +kernel
theorem dX1_listAddressNeeds_49 : decode cX1_listAddressNeeds 49 = .ok (.getfield 31, 3) := by decide +kernel
theorem dX1_listAddressNeeds_52 : decode cX1_listAddressNeeds 52 = .ok (.invokevirtual 84, 3) := by decide +kernel
theorem dX1_listAddressNeeds_55 : decode cX1_listAddressNeeds 55 = .ok (.goto 28, 3) := by decide +kernel
theorem dX1_listAddressNeeds_58 : decode cX1_listAddressNeeds 58 = .ok (.aload_n 0, 1) := by decide +kernel
theorem dX1_listAddressNeeds_59 : decode cX1_listAddressNeeds 59 = .ok (.getfield 14, 3) := by decide +kernel
theorem dX1_listAddressNeeds_62 : decode cX1_listAddressNeeds 62 = .ok (.aload_n 0, 1) := by decide +kernel
theorem dX1_listAddressNeeds_63 : decode cX1_listAddressNeeds 63 = .ok (.getfield 31, 3) := by decide +kernel
theorem dX1_listAddressNeeds_66 : decode cX1_listAddressNeeds 66 = .ok (.invokevirtual 71, 3) := by decide +kernel
theorem dX1_listAddressNeeds_69 : decode cX1_listAddressNeeds 69 = .ok (.goto 14, 3) := by decide +kernel
theorem dX1_listAddressNeeds_72 : decode cX1_listAddressNeeds 72 = .ok (.aload_n 0, 1) := by decide +kernel
theorem dX1_listAddressNeeds_73 : decode cX1_listAddressNeeds 73 = .ok (.getfield 14, 3) := by decide +kernel
theorem dX1_listAddressNeeds_76 : decode cX1_listAddressNeeds 76 = .ok (.aload_n 0, 1) := by decide +kernel
theorem dX1_listAddressNeeds_77 : decode cX1_listAddressNeeds 77 = .ok (.getfield 31, 3) := by decide +kernel
theorem dX1_listAddressNeeds_80 : decode cX1_listAddressNeeds 80 = .ok (.invokevirtual 81, 3) := by decide +kernel
theorem dX1_listAddressNeeds_83 : decode cX1_listAddressNeeds 83 = .ok (.aload_n 0, 1) := by decide +kernel
theorem dX1_listAddressNeeds_84 : decode cX1_listAddressNeeds 84 = .ok (.invokevirtual 61, 3) := by decide +kernel
theorem dX1_listAddressNeeds_87 : decode cX1_listAddressNeeds 87 = .ok (.iconst 1, 1) := by decide +kernel
theorem dX1_listAddressNeeds_88 : decode cX1_listAddressNeeds 88 = .ok (.if_icmp .ne 14, 3) := by decide +kernel
theorem dX1_listAddressNeeds_91 : decode cX1_listAddressNeeds 91 = .ok (.aload_n 0, 1) := by decide +kernel
theorem dX1_listAddressNeeds_92 : decode cX1_listAddressNeeds 92 = .ok (.getfield 14, 3) := by decide +kernel
theorem dX1_listAddressNeeds_95 : decode cX1_listAddressNeeds 95 = .ok (.aload_n 0, 1) := by decide +kernel
theorem dX1_listAddressNeeds_96 : decode cX1_listAddressNeeds 96 = .ok (.getfield 34, 3) := by decide +kernel
theorem dX1_listAddressNeeds_99 : decode cX1_listAddressNeeds 99 = .ok (.invokevirtual 81, 3) := by decide +kernel
theorem dX1_listAddressNeeds_102 : decode cX1_listAddressNeeds 102 = .ok (.aload_n 0, 1) := by decide +kernel
theorem dX1_listAddressNeeds_103 : decode cX1_listAddressNeeds 103 = .ok (.invokevirtual 87, 3) := by decide +kernel
theorem dX1_listAddressNeeds_106 : decode cX1_listAddressNeeds 106 = .ok (.ifCond .eq 14, 3) := by decide +kernel
theorem dX1_listAddressNeeds_109 : decode cX1_listAddressNeeds 109 = .ok (.aload_n 0, 1) := by decide +kernel
theorem dX1_listAddressNeeds_110 : decode cX1_listAddressNeeds 110 = .ok (.getfield 14, 3) := by decide +kernel
theorem dX1_listAddressNeeds_113 : decode cX1_listAddressNeeds 113 = .ok (.aload_n 0, 1) := by decide +kernel
theorem dX1_listAddressNeeds_114 : decode cX1_listAddressNeeds 114 = .ok (.getfield 28, 3) := by decide +kernel
theorem dX1_listAddressNeeds_117 : decode cX1_listAddressNeeds 117 = .ok (.invokevirtual 71, 3) := by decide +kernel
theorem dX1_listAddressNeeds_120 : decode cX1_listAddressNeeds 120 = .ok (.return_, 1) := by decide +kernel
set_option maxRecDepth 20000 in
theorem ggX1_listJumpNeeds_X5_addX_1 : ∀ w ∈ ([.methodLink RX5 19 yX5_add, .instanceMethod yX5_add, .selects RX5 yX5_add yX5_add, .initialized RX5, .code yX5_add cX5_add 2 none, .fieldLink RX5 15 "ScoreboardCore$RegisterList" "size" "I", .fieldLink RX5 11 "ScoreboardCore$RegisterList" "numbers" "[I"] : List Cond), w ∈ wsX1_listJumpNeeds := List.forall_mem_cons.mpr ⟨List.mem_of_getElem? (i := 10) rfl, List.forall_mem_cons.mpr ⟨List.mem_of_getElem? (i := 11) rfl, List.forall_mem_cons.mpr ⟨List.mem_of_getElem? (i := 12) rfl, List.forall_mem_cons.mpr ⟨List.mem_of_getElem? (i := 8) rfl, List.forall_mem_cons.mpr ⟨List.mem_of_getElem? (i := 13) rfl, List.forall_mem_cons.mpr ⟨List.mem_of_getElem? (i := 14) rfl, List.forall_mem_cons.mpr ⟨List.mem_of_getElem? (i := 15) rfl, fun _ h => nomatch h⟩⟩⟩⟩⟩⟩⟩
set_option maxRecDepth 20000 in
theorem ggX1_listJumpNeeds_X5_addX_2 : ∀ w ∈ wsX50, w ∈ wsX1_listJumpNeeds := fun w h => List.mem_cons_of_mem _ (List.mem_append_right _ (h))
theorem ggX1_listJumpNeeds_X5_addX_m : ∀ w ∈ wsX5_addX, w ∈ wsX1_listJumpNeeds := fun w h => (List.mem_cons.mp h).elim (fun e => by rw [e]; exact List.mem_of_getElem? (i := 9) rfl) (fun h => (List.mem_append.mp h).elim (fun h => ggX1_listJumpNeeds_X5_addX_1 w h) (fun h => ggX1_listJumpNeeds_X5_addX_2 w h))
set_option maxRecDepth 20000 in
theorem ggX1_listJumpNeeds_X5_addX : GoodIn wsX1_listJumpNeeds wsX5_addX := goodIn_sub ggX1_listJumpNeeds_X5_addX_m (by decide +kernel)
set_option maxRecDepth 20000 in
theorem ggX1_listJumpNeeds_X5_addB_1 : ∀ w ∈ ([.methodLink RX5 19 yX5_add, .instanceMethod yX5_add, .selects RX5 yX5_add yX5_add, .initialized RX5, .code yX5_add cX5_add 2 none, .fieldLink RX5 15 "ScoreboardCore$RegisterList" "size" "I", .fieldLink RX5 11 "ScoreboardCore$RegisterList" "numbers" "[I"] : List Cond), w ∈ wsX1_listJumpNeeds := List.forall_mem_cons.mpr ⟨List.mem_of_getElem? (i := 10) rfl, List.forall_mem_cons.mpr ⟨List.mem_of_getElem? (i := 11) rfl, List.forall_mem_cons.mpr ⟨List.mem_of_getElem? (i := 12) rfl, List.forall_mem_cons.mpr ⟨List.mem_of_getElem? (i := 8) rfl, List.forall_mem_cons.mpr ⟨List.mem_of_getElem? (i := 13) rfl, List.forall_mem_cons.mpr ⟨List.mem_of_getElem? (i := 14) rfl, List.forall_mem_cons.mpr ⟨List.mem_of_getElem? (i := 15) rfl, fun _ h => nomatch h⟩⟩⟩⟩⟩⟩⟩
set_option maxRecDepth 20000 in
theorem ggX1_listJumpNeeds_X5_addB_2 : ∀ w ∈ wsX50, w ∈ wsX1_listJumpNeeds := fun w h => List.mem_cons_of_mem _ (List.mem_append_right _ (h))
theorem ggX1_listJumpNeeds_X5_addB_m : ∀ w ∈ wsX5_addB, w ∈ wsX1_listJumpNeeds := fun w h => (List.mem_cons.mp h).elim (fun e => by rw [e]; exact List.mem_of_getElem? (i := 19) rfl) (fun h => (List.mem_append.mp h).elim (fun h => ggX1_listJumpNeeds_X5_addB_1 w h) (fun h => ggX1_listJumpNeeds_X5_addB_2 w h))
set_option maxRecDepth 20000 in
theorem ggX1_listJumpNeeds_X5_addB : GoodIn wsX1_listJumpNeeds wsX5_addB := goodIn_sub ggX1_listJumpNeeds_X5_addB_m (by decide +kernel)
theorem dX1_listJumpNeeds_0 : decode cX1_listJumpNeeds 0 = .ok (.aload_n 0, 1) := by decide +kernel
theorem dX1_listJumpNeeds_1 : decode cX1_listJumpNeeds 1 = .ok (.getfield 25, 3) := by decide +kernel
theorem dX1_listJumpNeeds_4 : decode cX1_listJumpNeeds 4 = .ok (.iconst 3, 1) := by decide +kernel
theorem dX1_listJumpNeeds_5 : decode cX1_listJumpNeeds 5 = .ok (.if_icmp .ne 17, 3) := by decide +kernel
theorem dX1_listJumpNeeds_8 : decode cX1_listJumpNeeds 8 = .ok (.aload_n 0, 1) := by decide +kernel
theorem dX1_listJumpNeeds_9 : decode cX1_listJumpNeeds 9 = .ok (.getfield 14, 3) := by decide +kernel
theorem dX1_listJumpNeeds_12 : decode cX1_listJumpNeeds 12 = .ok (.aload_n 0, 1) := by decide +kernel
theorem dX1_listJumpNeeds_13 : decode cX1_listJumpNeeds 13 = .ok (.getfield 31, 3) := by decide +kernel
theorem dX1_listJumpNeeds_16 : decode cX1_listJumpNeeds 16 = .ok (.invokevirtual 71, 3) := by decide +kernel
theorem dX1_listJumpNeeds_19 : decode cX1_listJumpNeeds 19 = .ok (.goto 64, 3) := by decide +kernel
theorem dX1_listJumpNeeds_22 : decode cX1_listJumpNeeds 22 = .ok (.aload_n 0, 1) := by decide +kernel
theorem dX1_listJumpNeeds_23 : decode cX1_listJumpNeeds 23 = .ok (.getfield 25, 3) := by decide +kernel
theorem dX1_listJumpNeeds_26 : decode cX1_listJumpNeeds 26 = .ok (.iconst 2, 1) := by decide +kernel
theorem dX1_listJumpNeeds_27 : decode cX1_listJumpNeeds 27 = .ok (.if_icmp .ne 17, 3) := by decide +kernel
theorem dX1_listJumpNeeds_30 : decode cX1_listJumpNeeds 30 = .ok (.aload_n 0, 1) := by decide +kernel
theorem dX1_listJumpNeeds_31 : decode cX1_listJumpNeeds 31 = .ok (.getfield 14, 3) := by decide +kernel
theorem dX1_listJumpNeeds_34 : decode cX1_listJumpNeeds 34 = .ok (.aload_n 0, 1) := by decide +kernel
theorem dX1_listJumpNeeds_35 : decode cX1_listJumpNeeds 35 = .ok (.getfield 28, 3) := by decide +kernel
theorem dX1_listJumpNeeds_38 : decode cX1_listJumpNeeds 38 = .ok (.invokevirtual 81, 3) := by decide +kernel
theorem dX1_listJumpNeeds_41 : decode cX1_listJumpNeeds 41 = .ok (.goto 42, 3) := by decide +kernel
theorem dX1_listJumpNeeds_44 : decode cX1_listJumpNeeds 44 = .ok (.aload_n 0, 1) := by decide +kernel
theorem dX1_listJumpNeeds_45 : decode cX1_listJumpNeeds 45 = .ok (.getfield 25, 3) := by decide +kernel
theorem dX1_listJumpNeeds_48 : decode cX1_listJumpNeeds 48 = .ok (.iconst 4, 1) := by decide +kernel
theorem dX1_listJumpNeeds_49 : decode cX1_listJumpNeeds 49 = .ok (.if_icmp .lt 34, 3) := by decide +kernel
theorem dX1_listJumpNeeds_52 : decode cX1_listJumpNeeds 52 = .ok (.aload_n 0, 1) := by decide +kernel
theorem dX1_listJumpNeeds_53 : decode cX1_listJumpNeeds 53 = .ok (.getfield 25, 3) := by decide +kernel
theorem dX1_listJumpNeeds_56 : decode cX1_listJumpNeeds 56 = .ok (.bipush 7, 2) := by decide +kernel
theorem dX1_listJumpNeeds_58 : decode cX1_listJumpNeeds 58 = .ok (.if_icmp .gt 25, 3) := by decide +kernel
theorem dX1_listJumpNeeds_61 : decode cX1_listJumpNeeds 61 = .ok (.aload_n 0, 1) := by decide +kernel
theorem dX1_listJumpNeeds_62 : decode cX1_listJumpNeeds 62 = .ok (.getfield 14, 3) := by decide +kernel
theorem dX1_listJumpNeeds_65 : decode cX1_listJumpNeeds 65 = .ok (.aload_n 0, 1) := by decide +kernel
theorem dX1_listJumpNeeds_66 : decode cX1_listJumpNeeds 66 = .ok (.getfield 28, 3) := by decide +kernel
theorem dX1_listJumpNeeds_69 : decode cX1_listJumpNeeds 69 = .ok (.invokevirtual 81, 3) := by decide +kernel
theorem dX1_listJumpNeeds_72 : decode cX1_listJumpNeeds 72 = .ok (.aload_n 0, 1) := by decide +kernel
theorem dX1_listJumpNeeds_73 : decode cX1_listJumpNeeds 73 = .ok (.getfield 14, 3) := by decide +kernel
theorem dX1_listJumpNeeds_76 : decode cX1_listJumpNeeds 76 = .ok (.aload_n 0, 1) := by decide +kernel
theorem dX1_listJumpNeeds_77 : decode cX1_listJumpNeeds 77 = .ok (.getfield 31, 3) := by decide +kernel
theorem dX1_listJumpNeeds_80 : decode cX1_listJumpNeeds 80 = .ok (.invokevirtual 81, 3) := by decide +kernel
theorem dX1_listJumpNeeds_83 : decode cX1_listJumpNeeds 83 = .ok (.return_, 1) := by decide +kernel
set_option maxRecDepth 20000 in
theorem ggX1_listResults_X5_addA_1 : ∀ w ∈ ([.methodLink RX5 19 yX5_add, .instanceMethod yX5_add, .selects RX5 yX5_add yX5_add, .initialized RX5, .code yX5_add cX5_add 2 none, .fieldLink RX5 15 "ScoreboardCore$RegisterList" "size" "I", .fieldLink RX5 11 "ScoreboardCore$RegisterList" "numbers" "[I"] : List Cond), w ∈ wsX1_listResults := List.forall_mem_cons.mpr ⟨List.mem_of_getElem? (i := 10) rfl, List.forall_mem_cons.mpr ⟨List.mem_of_getElem? (i := 11) rfl, List.forall_mem_cons.mpr ⟨List.mem_of_getElem? (i := 12) rfl, List.forall_mem_cons.mpr ⟨List.mem_of_getElem? (i := 8) rfl, List.forall_mem_cons.mpr ⟨List.mem_of_getElem? (i := 13) rfl, List.forall_mem_cons.mpr ⟨List.mem_of_getElem? (i := 14) rfl, List.forall_mem_cons.mpr ⟨List.mem_of_getElem? (i := 15) rfl, fun _ h => nomatch h⟩⟩⟩⟩⟩⟩⟩
set_option maxRecDepth 20000 in
theorem ggX1_listResults_X5_addA_2 : ∀ w ∈ wsX50, w ∈ wsX1_listResults := fun w h => List.mem_cons_of_mem _ (List.mem_append_right _ (h))
theorem ggX1_listResults_X5_addA_m : ∀ w ∈ wsX5_addA, w ∈ wsX1_listResults := fun w h => (List.mem_cons.mp h).elim (fun e => by rw [e]; exact List.mem_of_getElem? (i := 9) rfl) (fun h => (List.mem_append.mp h).elim (fun h => ggX1_listResults_X5_addA_1 w h) (fun h => ggX1_listResults_X5_addA_2 w h))
set_option maxRecDepth 20000 in
theorem ggX1_listResults_X5_addA : GoodIn wsX1_listResults wsX5_addA := goodIn_sub ggX1_listResults_X5_addA_m (by decide +kernel)
set_option maxRecDepth 20000 in
theorem ggX1_listResults_X1_loads_1 : ∀ w ∈ ([.fieldLink RX1 25 "ScoreboardCore$Instruction" "op" "I", .fieldLink RX1 28 "ScoreboardCore$Instruction" "i" "I"] : List Cond), w ∈ wsX1_listResults := List.forall_mem_cons.mpr ⟨List.mem_of_getElem? (i := 2) rfl, List.forall_mem_cons.mpr ⟨List.mem_of_getElem? (i := 4) rfl, fun _ h => nomatch h⟩⟩
set_option maxRecDepth 20000 in
theorem ggX1_listResults_X1_loads_2 : ∀ w ∈ wsX10, w ∈ wsX1_listResults := fun w h => List.mem_cons_of_mem _ (List.mem_append_left _ (List.mem_append_right _ (h)))
theorem ggX1_listResults_X1_loads_m : ∀ w ∈ wsX1_loads, w ∈ wsX1_listResults := fun w h => (List.mem_cons.mp h).elim (fun e => by rw [e]; exact List.mem_of_getElem? (i := 20) rfl) (fun h => (List.mem_append.mp h).elim (fun h => ggX1_listResults_X1_loads_1 w h) (fun h => ggX1_listResults_X1_loads_2 w h))
set_option maxRecDepth 20000 in
theorem ggX1_listResults_X1_loads : GoodIn wsX1_listResults wsX1_loads := goodIn_sub ggX1_listResults_X1_loads_m (by decide +kernel)
set_option maxRecDepth 20000 in
theorem ggX1_listResults_X5_addX_1 : ∀ w ∈ ([.methodLink RX5 19 yX5_add, .instanceMethod yX5_add, .selects RX5 yX5_add yX5_add, .initialized RX5, .code yX5_add cX5_add 2 none, .fieldLink RX5 15 "ScoreboardCore$RegisterList" "size" "I", .fieldLink RX5 11 "ScoreboardCore$RegisterList" "numbers" "[I"] : List Cond), w ∈ wsX1_listResults := List.forall_mem_cons.mpr ⟨List.mem_of_getElem? (i := 10) rfl, List.forall_mem_cons.mpr ⟨List.mem_of_getElem? (i := 11) rfl, List.forall_mem_cons.mpr ⟨List.mem_of_getElem? (i := 12) rfl, List.forall_mem_cons.mpr ⟨List.mem_of_getElem? (i := 8) rfl, List.forall_mem_cons.mpr ⟨List.mem_of_getElem? (i := 13) rfl, List.forall_mem_cons.mpr ⟨List.mem_of_getElem? (i := 14) rfl, List.forall_mem_cons.mpr ⟨List.mem_of_getElem? (i := 15) rfl, fun _ h => nomatch h⟩⟩⟩⟩⟩⟩⟩
set_option maxRecDepth 20000 in
theorem ggX1_listResults_X5_addX_2 : ∀ w ∈ wsX50, w ∈ wsX1_listResults := fun w h => List.mem_cons_of_mem _ (List.mem_append_right _ (h))
theorem ggX1_listResults_X5_addX_m : ∀ w ∈ wsX5_addX, w ∈ wsX1_listResults := fun w h => (List.mem_cons.mp h).elim (fun e => by rw [e]; exact List.mem_of_getElem? (i := 24) rfl) (fun h => (List.mem_append.mp h).elim (fun h => ggX1_listResults_X5_addX_1 w h) (fun h => ggX1_listResults_X5_addX_2 w h))
set_option maxRecDepth 20000 in
theorem ggX1_listResults_X5_addX : GoodIn wsX1_listResults wsX5_addX := goodIn_sub ggX1_listResults_X5_addX_m (by decide +kernel)
set_option maxRecDepth 20000 in
theorem ggX1_listResults_X5_addB_1 : ∀ w ∈ ([.methodLink RX5 19 yX5_add, .instanceMethod yX5_add, .selects RX5 yX5_add yX5_add, .initialized RX5, .code yX5_add cX5_add 2 none, .fieldLink RX5 15 "ScoreboardCore$RegisterList" "size" "I", .fieldLink RX5 11 "ScoreboardCore$RegisterList" "numbers" "[I"] : List Cond), w ∈ wsX1_listResults := List.forall_mem_cons.mpr ⟨List.mem_of_getElem? (i := 10) rfl, List.forall_mem_cons.mpr ⟨List.mem_of_getElem? (i := 11) rfl, List.forall_mem_cons.mpr ⟨List.mem_of_getElem? (i := 12) rfl, List.forall_mem_cons.mpr ⟨List.mem_of_getElem? (i := 8) rfl, List.forall_mem_cons.mpr ⟨List.mem_of_getElem? (i := 13) rfl, List.forall_mem_cons.mpr ⟨List.mem_of_getElem? (i := 14) rfl, List.forall_mem_cons.mpr ⟨List.mem_of_getElem? (i := 15) rfl, fun _ h => nomatch h⟩⟩⟩⟩⟩⟩⟩
set_option maxRecDepth 20000 in
theorem ggX1_listResults_X5_addB_2 : ∀ w ∈ wsX50, w ∈ wsX1_listResults := fun w h => List.mem_cons_of_mem _ (List.mem_append_right _ (h))
theorem ggX1_listResults_X5_addB_m : ∀ w ∈ wsX5_addB, w ∈ wsX1_listResults := fun w h => (List.mem_cons.mp h).elim (fun e => by rw [e]; exact List.mem_of_getElem? (i := 28) rfl) (fun h => (List.mem_append.mp h).elim (fun h => ggX1_listResults_X5_addB_1 w h) (fun h => ggX1_listResults_X5_addB_2 w h))
set_option maxRecDepth 20000 in
theorem ggX1_listResults_X5_addB : GoodIn wsX1_listResults wsX5_addB := goodIn_sub ggX1_listResults_X5_addB_m (by decide +kernel)
theorem dX1_listResults_0 : decode cX1_listResults 0 = .ok (.aload_n 0, 1) := by decide +kernel
theorem dX1_listResults_1 : decode cX1_listResults 1 = .ok (.getfield 45, 3) := by decide +kernel
theorem dX1_listResults_4 : decode cX1_listResults 4 = .ok (.iconst (-1), 1) := by decide +kernel
theorem dX1_listResults_5 : decode cX1_listResults 5 = .ok (.if_icmp .ne 4, 3) := by decide +kernel
theorem dX1_listResults_8 : decode cX1_listResults 8 = .ok (.return_, 1) := by decide +kernel
theorem dX1_listResults_9 : decode cX1_listResults 9 = .ok (.aload_n 0, 1) := by decide +kernel
theorem dX1_listResults_10 : decode cX1_listResults 10 = .ok (.getfield 25, 3) := by decide +kernel
theorem dX1_listResults_13 : decode cX1_listResults 13 = .ok (.iconst 3, 1) := by decide +kernel
theorem dX1_listResults_14 : decode cX1_listResults 14 = .ok (.ishr, 1) := by decide +kernel
theorem dX1_listResults_15 : decode cX1_listResults 15 = .ok (.lookupswitch 71 #[(5, 25), (6, 57)], 25) := by decide +kernel
theorem dX1_listResults_40 : decode cX1_listResults 40 = .ok (.aload_n 0, 1) := by decide +kernel
theorem dX1_listResults_41 : decode cX1_listResults 41 = .ok (.getfield 18, 3) := by decide +kernel
theorem dX1_listResults_44 : decode cX1_listResults 44 = .ok (.aload_n 0, 1) := by decide +kernel
theorem dX1_listResults_45 : decode cX1_listResults 45 = .ok (.getfield 28, 3) := by decide +kernel
theorem dX1_listResults_48 : decode cX1_listResults 48 = .ok (.invokevirtual 84, 3) := by decide +kernel
theorem dX1_listResults_51 : decode cX1_listResults 51 = .ok (.aload_n 0, 1) := by decide +kernel
theorem dX1_listResults_52 : decode cX1_listResults 52 = .ok (.invokevirtual 90, 3) := by decide +kernel
theorem dX1_listResults_55 : decode cX1_listResults 55 = .ok (.ifCond .eq 42, 3) := by decide +kernel
theorem dX1_listResults_58 : decode cX1_listResults 58 = .ok (.aload_n 0, 1) := by decide +kernel
theorem dX1_listResults_59 : decode cX1_listResults 59 = .ok (.getfield 18, 3) := by decide +kernel
theorem dX1_listResults_62 : decode cX1_listResults 62 = .ok (.aload_n 0, 1) := by decide +kernel
theorem dX1_listResults_63 : decode cX1_listResults 63 = .ok (.getfield 28, 3) := by decide +kernel
theorem dX1_listResults_66 : decode cX1_listResults 66 = .ok (.invokevirtual 71, 3) := by decide +kernel
theorem dX1_listResults_69 : decode cX1_listResults 69 = .ok (.goto 28, 3) := by decide +kernel
theorem dX1_listResults_72 : decode cX1_listResults 72 = .ok (.aload_n 0, 1) := by decide +kernel
theorem dX1_listResults_73 : decode cX1_listResults 73 = .ok (.getfield 18, 3) := by decide +kernel
theorem dX1_listResults_76 : decode cX1_listResults 76 = .ok (.aload_n 0, 1) := by decide +kernel
theorem dX1_listResults_77 : decode cX1_listResults 77 = .ok (.getfield 28, 3) := by decide +kernel
theorem dX1_listResults_80 : decode cX1_listResults 80 = .ok (.invokevirtual 81, 3) := by decide +kernel
theorem dX1_listResults_83 : decode cX1_listResults 83 = .ok (.goto 14, 3) := by decide +kernel
theorem dX1_listResults_86 : decode cX1_listResults 86 = .ok (.aload_n 0, 1) := by decide +kernel
theorem dX1_listResults_87 : decode cX1_listResults 87 = .ok (.getfield 18, 3) := by decide +kernel
theorem dX1_listResults_90 : decode cX1_listResults 90 = .ok (.aload_n 0, 1) := by decide +kernel
theorem dX1_listResults_91 : decode cX1_listResults 91 = .ok (.getfield 28, 3) := by decide +kernel
theorem dX1_listResults_94 : decode cX1_listResults 94 = .ok (.invokevirtual 71, 3) := by decide +kernel
theorem dX1_listResults_97 : decode cX1_listResults 97 = .ok (.return_, 1) := by decide +kernel
set_option maxRecDepth 20000 in
theorem ggX2_goesElsewhere_X1_op_1 : ∀ w ∈ ([.fieldLink RX1 25 "ScoreboardCore$Instruction" "op" "I"] : List Cond), w ∈ wsX2_goesElsewhere := List.forall_mem_cons.mpr ⟨List.mem_of_getElem? (i := 6) rfl, fun _ h => nomatch h⟩
set_option maxRecDepth 20000 in
theorem ggX2_goesElsewhere_X1_op_2 : ∀ w ∈ wsX10, w ∈ wsX2_goesElsewhere := fun w h => List.mem_cons_of_mem _ (List.mem_append_left _ (List.mem_append_right _ (h)))
theorem ggX2_goesElsewhere_X1_op_m : ∀ w ∈ wsX1_op, w ∈ wsX2_goesElsewhere := fun w h => (List.mem_cons.mp h).elim (fun e => by rw [e]; exact List.mem_of_getElem? (i := 5) rfl) (fun h => (List.mem_append.mp h).elim (fun h => ggX2_goesElsewhere_X1_op_1 w h) (fun h => ggX2_goesElsewhere_X1_op_2 w h))
set_option maxRecDepth 20000 in
theorem ggX2_goesElsewhere_X1_op : GoodIn wsX2_goesElsewhere wsX1_op := goodIn_sub ggX2_goesElsewhere_X1_op_m (by decide +kernel)
set_option maxRecDepth 20000 in
theorem ggX2_goesElsewhere_X1_i_1 : ∀ w ∈ ([.fieldLink RX1 28 "ScoreboardCore$Instruction" "i" "I"] : List Cond), w ∈ wsX2_goesElsewhere := List.forall_mem_cons.mpr ⟨List.mem_of_getElem? (i := 11) rfl, fun _ h => nomatch h⟩
set_option maxRecDepth 20000 in
theorem ggX2_goesElsewhere_X1_i_2 : ∀ w ∈ wsX10, w ∈ wsX2_goesElsewhere := fun w h => List.mem_cons_of_mem _ (List.mem_append_left _ (List.mem_append_right _ (h)))
theorem ggX2_goesElsewhere_X1_i_m : ∀ w ∈ wsX1_i, w ∈ wsX2_goesElsewhere := fun w h => (List.mem_cons.mp h).elim (fun e => by rw [e]; exact List.mem_of_getElem? (i := 10) rfl) (fun h => (List.mem_append.mp h).elim (fun h => ggX2_goesElsewhere_X1_i_1 w h) (fun h => ggX2_goesElsewhere_X1_i_2 w h))
set_option maxRecDepth 20000 in
theorem ggX2_goesElsewhere_X1_i : GoodIn wsX2_goesElsewhere wsX1_i := goodIn_sub ggX2_goesElsewhere_X1_i_m (by decide +kernel)
set_option maxRecDepth 20000 in
theorem ggX2_goesElsewhere_X1_j_1 : ∀ w ∈ ([.fieldLink RX1 31 "ScoreboardCore$Instruction" "j" "I"] : List Cond), w ∈ wsX2_goesElsewhere := List.forall_mem_cons.mpr ⟨List.mem_of_getElem? (i := 16) rfl, fun _ h => nomatch h⟩
set_option maxRecDepth 20000 in
theorem ggX2_goesElsewhere_X1_j_2 : ∀ w ∈ wsX10, w ∈ wsX2_goesElsewhere := fun w h => List.mem_cons_of_mem _ (List.mem_append_left _ (List.mem_append_right _ (h)))
theorem ggX2_goesElsewhere_X1_j_m : ∀ w ∈ wsX1_j, w ∈ wsX2_goesElsewhere := fun w h => (List.mem_cons.mp h).elim (fun e => by rw [e]; exact List.mem_of_getElem? (i := 15) rfl) (fun h => (List.mem_append.mp h).elim (fun h => ggX2_goesElsewhere_X1_j_1 w h) (fun h => ggX2_goesElsewhere_X1_j_2 w h))
set_option maxRecDepth 20000 in
theorem ggX2_goesElsewhere_X1_j : GoodIn wsX2_goesElsewhere wsX1_j := goodIn_sub ggX2_goesElsewhere_X1_j_m (by decide +kernel)
set_option maxRecDepth 20000 in
theorem ggX2_goesElsewhere_X6_x_1 : ∀ w ∈ ([.fieldLink RX6 9 "ScoreboardCore$Registers" "values" "[J"] : List Cond), w ∈ wsX2_goesElsewhere := List.forall_mem_cons.mpr ⟨List.mem_of_getElem? (i := 22) rfl, fun _ h => nomatch h⟩
set_option maxRecDepth 20000 in
theorem ggX2_goesElsewhere_X6_x_2 : ∀ w ∈ wsX60, w ∈ wsX2_goesElsewhere := fun w h => List.mem_cons_of_mem _ (List.mem_append_right _ (h))
theorem ggX2_goesElsewhere_X6_x_m : ∀ w ∈ wsX6_x, w ∈ wsX2_goesElsewhere := fun w h => (List.mem_cons.mp h).elim (fun e => by rw [e]; exact List.mem_of_getElem? (i := 21) rfl) (fun h => (List.mem_append.mp h).elim (fun h => ggX2_goesElsewhere_X6_x_1 w h) (fun h => ggX2_goesElsewhere_X6_x_2 w h))
set_option maxRecDepth 20000 in
theorem ggX2_goesElsewhere_X6_x : GoodIn wsX2_goesElsewhere wsX6_x := goodIn_sub ggX2_goesElsewhere_X6_x_m (by decide +kernel)
set_option maxRecDepth 20000 in
theorem ggX2_goesElsewhere_X2_wordHolds_1 : ∀ w ∈ ([.methodLink RX2 53 yX4_isZero, .static yX4_isZero, .initialized RX4, .code yX4_isZero cX4_isZero 2 (some .boolean), .constantLong RX4 17 (1152921504606846975), .methodLink RX2 57 yX4_isNegative, .static yX4_isNegative, .code yX4_isNegative cX4_isNegative 2 (some .boolean)] : List Cond), w ∈ wsX2_goesElsewhere := List.forall_mem_cons.mpr ⟨List.mem_of_getElem? (i := 27) rfl, List.forall_mem_cons.mpr ⟨List.mem_of_getElem? (i := 28) rfl, List.forall_mem_cons.mpr ⟨List.mem_of_getElem? (i := 29) rfl, List.forall_mem_cons.mpr ⟨List.mem_of_getElem? (i := 30) rfl, List.forall_mem_cons.mpr ⟨List.mem_of_getElem? (i := 31) rfl, List.forall_mem_cons.mpr ⟨List.mem_of_getElem? (i := 32) rfl, List.forall_mem_cons.mpr ⟨List.mem_of_getElem? (i := 33) rfl, List.forall_mem_cons.mpr ⟨List.mem_of_getElem? (i := 34) rfl, fun _ h => nomatch h⟩⟩⟩⟩⟩⟩⟩⟩
theorem ggX2_goesElsewhere_X2_wordHolds_m : ∀ w ∈ wsX2_wordHolds, w ∈ wsX2_goesElsewhere := fun w h => (List.mem_cons.mp h).elim (fun e => by rw [e]; exact List.mem_of_getElem? (i := 26) rfl) (fun h => ggX2_goesElsewhere_X2_wordHolds_1 w h)
set_option maxRecDepth 20000 in
theorem ggX2_goesElsewhere_X2_wordHolds : GoodIn wsX2_goesElsewhere wsX2_wordHolds := goodIn_sub ggX2_goesElsewhere_X2_wordHolds_m (by decide +kernel)
set_option maxRecDepth 20000 in
theorem ggX2_goesElsewhere_X6_b_1 : ∀ w ∈ ([.fieldLink RX6 9 "ScoreboardCore$Registers" "values" "[J"] : List Cond), w ∈ wsX2_goesElsewhere := List.forall_mem_cons.mpr ⟨List.mem_of_getElem? (i := 22) rfl, fun _ h => nomatch h⟩
set_option maxRecDepth 20000 in
theorem ggX2_goesElsewhere_X6_b_2 : ∀ w ∈ wsX60, w ∈ wsX2_goesElsewhere := fun w h => List.mem_cons_of_mem _ (List.mem_append_right _ (h))
theorem ggX2_goesElsewhere_X6_b_m : ∀ w ∈ wsX6_b, w ∈ wsX2_goesElsewhere := fun w h => (List.mem_cons.mp h).elim (fun e => by rw [e]; exact List.mem_of_getElem? (i := 38) rfl) (fun h => (List.mem_append.mp h).elim (fun h => ggX2_goesElsewhere_X6_b_1 w h) (fun h => ggX2_goesElsewhere_X6_b_2 w h))
set_option maxRecDepth 20000 in
theorem ggX2_goesElsewhere_X6_b : GoodIn wsX2_goesElsewhere wsX6_b := goodIn_sub ggX2_goesElsewhere_X6_b_m (by decide +kernel)
set_option maxRecDepth 20000 in
theorem ggX2_goesElsewhere_X2_shortsHold_1 : ∀ w ∈ ([.methodLink RX2 60 yX4_plain, .static yX4_plain, .initialized RX4, .code yX4_plain cX4_plain 2 (some .long), .constantLong RX4 25 (262143), .methodLink RX4 19 yX4_isShortNegative, .static yX4_isShortNegative, .code yX4_isShortNegative cX4_isShortNegative 2 (some .boolean), .constantLong RX4 15 (131071), .methodLink RX2 64 yJ13_compare_74951, .static yJ13_compare_74951, .initialized RJ13, .code yJ13_compare_74951 cJ13_compare_74951 4 (some .int)] : List Cond), w ∈ wsX2_goesElsewhere := List.forall_mem_cons.mpr ⟨List.mem_of_getElem? (i := 42) rfl, List.forall_mem_cons.mpr ⟨List.mem_of_getElem? (i := 43) rfl, List.forall_mem_cons.mpr ⟨List.mem_of_getElem? (i := 29) rfl, List.forall_mem_cons.mpr ⟨List.mem_of_getElem? (i := 44) rfl, List.forall_mem_cons.mpr ⟨List.mem_of_getElem? (i := 45) rfl, List.forall_mem_cons.mpr ⟨List.mem_of_getElem? (i := 46) rfl, List.forall_mem_cons.mpr ⟨List.mem_of_getElem? (i := 47) rfl, List.forall_mem_cons.mpr ⟨List.mem_of_getElem? (i := 48) rfl, List.forall_mem_cons.mpr ⟨List.mem_of_getElem? (i := 49) rfl, List.forall_mem_cons.mpr ⟨List.mem_of_getElem? (i := 50) rfl, List.forall_mem_cons.mpr ⟨List.mem_of_getElem? (i := 51) rfl, List.forall_mem_cons.mpr ⟨List.mem_of_getElem? (i := 52) rfl, List.forall_mem_cons.mpr ⟨List.mem_of_getElem? (i := 53) rfl, fun _ h => nomatch h⟩⟩⟩⟩⟩⟩⟩⟩⟩⟩⟩⟩⟩
theorem ggX2_goesElsewhere_X2_shortsHold_m : ∀ w ∈ wsX2_shortsHold, w ∈ wsX2_goesElsewhere := fun w h => (List.mem_cons.mp h).elim (fun e => by rw [e]; exact List.mem_of_getElem? (i := 41) rfl) (fun h => ggX2_goesElsewhere_X2_shortsHold_1 w h)
set_option maxRecDepth 20000 in
theorem ggX2_goesElsewhere_X2_shortsHold : GoodIn wsX2_goesElsewhere wsX2_shortsHold := goodIn_sub ggX2_goesElsewhere_X2_shortsHold_m (by decide +kernel)
theorem dX2_goesElsewhere_0 : decode cX2_goesElsewhere 0 = .ok (.aload_n 0, 1) := by decide +kernel
theorem dX2_goesElsewhere_1 : decode cX2_goesElsewhere 1 = .ok (.invokevirtual 9, 3) := by decide +kernel
theorem dX2_goesElsewhere_4 : decode cX2_goesElsewhere 4 = .ok (.iconst 1, 1) := by decide +kernel
theorem dX2_goesElsewhere_5 : decode cX2_goesElsewhere 5 = .ok (.if_icmp .eq 11, 3) := by decide +kernel
theorem dX2_goesElsewhere_8 : decode cX2_goesElsewhere 8 = .ok (.aload_n 0, 1) := by decide +kernel
theorem dX2_goesElsewhere_9 : decode cX2_goesElsewhere 9 = .ok (.invokevirtual 9, 3) := by decide +kernel
theorem dX2_goesElsewhere_12 : decode cX2_goesElsewhere 12 = .ok (.iconst 2, 1) := by decide +kernel
theorem dX2_goesElsewhere_13 : decode cX2_goesElsewhere 13 = .ok (.if_icmp .ne 5, 3) := by decide +kernel
theorem dX2_goesElsewhere_16 : decode cX2_goesElsewhere 16 = .ok (.iconst 1, 1) := by decide +kernel
theorem dX2_goesElsewhere_17 : decode cX2_goesElsewhere 17 = .ok (.ireturn, 1) := by decide +kernel
theorem dX2_goesElsewhere_18 : decode cX2_goesElsewhere 18 = .ok (.aload_n 0, 1) := by decide +kernel
theorem dX2_goesElsewhere_19 : decode cX2_goesElsewhere 19 = .ok (.invokevirtual 9, 3) := by decide +kernel
theorem dX2_goesElsewhere_22 : decode cX2_goesElsewhere 22 = .ok (.iconst 3, 1) := by decide +kernel
theorem dX2_goesElsewhere_23 : decode cX2_goesElsewhere 23 = .ok (.if_icmp .ne 21, 3) := by decide +kernel
theorem dX2_goesElsewhere_26 : decode cX2_goesElsewhere 26 = .ok (.aload_n 0, 1) := by decide +kernel
theorem dX2_goesElsewhere_27 : decode cX2_goesElsewhere 27 = .ok (.invokevirtual 15, 3) := by decide +kernel
theorem dX2_goesElsewhere_30 : decode cX2_goesElsewhere 30 = .ok (.aload_n 1, 1) := by decide +kernel
theorem dX2_goesElsewhere_31 : decode cX2_goesElsewhere 31 = .ok (.aload_n 0, 1) := by decide +kernel
theorem dX2_goesElsewhere_32 : decode cX2_goesElsewhere 32 = .ok (.invokevirtual 18, 3) := by decide +kernel
theorem dX2_goesElsewhere_35 : decode cX2_goesElsewhere 35 = .ok (.invokevirtual 21, 3) := by decide +kernel
theorem dX2_goesElsewhere_38 : decode cX2_goesElsewhere 38 = .ok (.invokestatic 27, 3) := by decide +kernel
theorem dX2_goesElsewhere_41 : decode cX2_goesElsewhere 41 = .ok (.goto 26, 3) := by decide +kernel
theorem dX2_goesElsewhere_44 : decode cX2_goesElsewhere 44 = .ok (.aload_n 0, 1) := by decide +kernel
theorem dX2_goesElsewhere_45 : decode cX2_goesElsewhere 45 = .ok (.invokevirtual 9, 3) := by decide +kernel
theorem dX2_goesElsewhere_48 : decode cX2_goesElsewhere 48 = .ok (.aload_n 1, 1) := by decide +kernel
theorem dX2_goesElsewhere_49 : decode cX2_goesElsewhere 49 = .ok (.aload_n 0, 1) := by decide +kernel
theorem dX2_goesElsewhere_50 : decode cX2_goesElsewhere 50 = .ok (.invokevirtual 15, 3) := by decide +kernel
theorem dX2_goesElsewhere_53 : decode cX2_goesElsewhere 53 = .ok (.invokevirtual 33, 3) := by decide +kernel
theorem dX2_goesElsewhere_56 : decode cX2_goesElsewhere 56 = .ok (.aload_n 1, 1) := by decide +kernel
theorem dX2_goesElsewhere_57 : decode cX2_goesElsewhere 57 = .ok (.aload_n 0, 1) := by decide +kernel
theorem dX2_goesElsewhere_58 : decode cX2_goesElsewhere 58 = .ok (.invokevirtual 18, 3) := by decide +kernel
theorem dX2_goesElsewhere_61 : decode cX2_goesElsewhere 61 = .ok (.invokevirtual 33, 3) := by decide +kernel
theorem dX2_goesElsewhere_64 : decode cX2_goesElsewhere 64 = .ok (.invokestatic 36, 3) := by decide +kernel
theorem dX2_goesElsewhere_67 : decode cX2_goesElsewhere 67 = .ok (.ireturn, 1) := by decide +kernel
set_option maxRecDepth 20000 in
theorem ggX2_target_X1_op_1 : ∀ w ∈ ([.fieldLink RX1 25 "ScoreboardCore$Instruction" "op" "I"] : List Cond), w ∈ wsX2_target := List.forall_mem_cons.mpr ⟨List.mem_of_getElem? (i := 7) rfl, fun _ h => nomatch h⟩
set_option maxRecDepth 20000 in
theorem ggX2_target_X1_op_2 : ∀ w ∈ wsX10, w ∈ wsX2_target := fun w h => List.mem_cons_of_mem _ (List.mem_append_left _ (List.mem_append_right _ (h)))
theorem ggX2_target_X1_op_m : ∀ w ∈ wsX1_op, w ∈ wsX2_target := fun w h => (List.mem_cons.mp h).elim (fun e => by rw [e]; exact List.mem_of_getElem? (i := 6) rfl) (fun h => (List.mem_append.mp h).elim (fun h => ggX2_target_X1_op_1 w h) (fun h => ggX2_target_X1_op_2 w h))
set_option maxRecDepth 20000 in
theorem ggX2_target_X1_op : GoodIn wsX2_target wsX1_op := goodIn_sub ggX2_target_X1_op_m (by decide +kernel)
set_option maxRecDepth 20000 in
theorem ggX2_target_X1_constant_1 : ∀ w ∈ ([.fieldLink RX1 38 "ScoreboardCore$Instruction" "constant" "I"] : List Cond), w ∈ wsX2_target := List.forall_mem_cons.mpr ⟨List.mem_of_getElem? (i := 12) rfl, fun _ h => nomatch h⟩
set_option maxRecDepth 20000 in
theorem ggX2_target_X1_constant_2 : ∀ w ∈ wsX10, w ∈ wsX2_target := fun w h => List.mem_cons_of_mem _ (List.mem_append_left _ (List.mem_append_right _ (h)))
theorem ggX2_target_X1_constant_m : ∀ w ∈ wsX1_constant, w ∈ wsX2_target := fun w h => (List.mem_cons.mp h).elim (fun e => by rw [e]; exact List.mem_of_getElem? (i := 11) rfl) (fun h => (List.mem_append.mp h).elim (fun h => ggX2_target_X1_constant_1 w h) (fun h => ggX2_target_X1_constant_2 w h))
set_option maxRecDepth 20000 in
theorem ggX2_target_X1_constant : GoodIn wsX2_target wsX1_constant := goodIn_sub ggX2_target_X1_constant_m (by decide +kernel)
set_option maxRecDepth 20000 in
theorem ggX2_target_X1_i_1 : ∀ w ∈ ([.fieldLink RX1 28 "ScoreboardCore$Instruction" "i" "I"] : List Cond), w ∈ wsX2_target := List.forall_mem_cons.mpr ⟨List.mem_of_getElem? (i := 17) rfl, fun _ h => nomatch h⟩
set_option maxRecDepth 20000 in
theorem ggX2_target_X1_i_2 : ∀ w ∈ wsX10, w ∈ wsX2_target := fun w h => List.mem_cons_of_mem _ (List.mem_append_left _ (List.mem_append_right _ (h)))
theorem ggX2_target_X1_i_m : ∀ w ∈ wsX1_i, w ∈ wsX2_target := fun w h => (List.mem_cons.mp h).elim (fun e => by rw [e]; exact List.mem_of_getElem? (i := 16) rfl) (fun h => (List.mem_append.mp h).elim (fun h => ggX2_target_X1_i_1 w h) (fun h => ggX2_target_X1_i_2 w h))
set_option maxRecDepth 20000 in
theorem ggX2_target_X1_i : GoodIn wsX2_target wsX1_i := goodIn_sub ggX2_target_X1_i_m (by decide +kernel)
set_option maxRecDepth 20000 in
theorem ggX2_target_X6_b_1 : ∀ w ∈ ([.fieldLink RX6 9 "ScoreboardCore$Registers" "values" "[J"] : List Cond), w ∈ wsX2_target := List.forall_mem_cons.mpr ⟨List.mem_of_getElem? (i := 23) rfl, fun _ h => nomatch h⟩
set_option maxRecDepth 20000 in
theorem ggX2_target_X6_b_2 : ∀ w ∈ wsX60, w ∈ wsX2_target := fun w h => List.mem_cons_of_mem _ (List.mem_append_right _ (h))
theorem ggX2_target_X6_b_m : ∀ w ∈ wsX6_b, w ∈ wsX2_target := fun w h => (List.mem_cons.mp h).elim (fun e => by rw [e]; exact List.mem_of_getElem? (i := 22) rfl) (fun h => (List.mem_append.mp h).elim (fun h => ggX2_target_X6_b_1 w h) (fun h => ggX2_target_X6_b_2 w h))
set_option maxRecDepth 20000 in
theorem ggX2_target_X6_b : GoodIn wsX2_target wsX6_b := goodIn_sub ggX2_target_X6_b_m (by decide +kernel)
set_option maxRecDepth 20000 in
theorem ggX2_target_X4_sum_1 : ∀ w ∈ ([] : List Cond), w ∈ wsX2_target := fun _ h => nomatch h
theorem ggX2_target_X4_sum_m : ∀ w ∈ wsX4_sum, w ∈ wsX2_target := fun w h => (List.mem_cons.mp h).elim (fun e => by rw [e]; exact List.mem_of_getElem? (i := 27) rfl) (fun h => ggX2_target_X4_sum_1 w h)
set_option maxRecDepth 20000 in
theorem ggX2_target_X4_sum : GoodIn wsX2_target wsX4_sum := goodIn_sub ggX2_target_X4_sum_m (by decide +kernel)
theorem dX2_target_0 : decode cX2_target 0 = .ok (.aload_n 0, 1) := by decide +kernel
theorem dX2_target_1 : decode cX2_target 1 = .ok (.invokevirtual 9, 3) := by decide +kernel
theorem dX2_target_4 : decode cX2_target 4 = .ok (.lookupswitch 56 #[(1, 28), (2, 35)], 28) := by decide +kernel
theorem dX2_target_32 : decode cX2_target 32 = .ok (.aload_n 0, 1) := by decide +kernel
theorem dX2_target_33 : decode cX2_target 33 = .ok (.invokevirtual 40, 3) := by decide +kernel
theorem dX2_target_36 : decode cX2_target 36 = .ok (.iconst 1, 1) := by decide +kernel
theorem dX2_target_37 : decode cX2_target 37 = .ok (.iadd, 1) := by decide +kernel
theorem dX2_target_38 : decode cX2_target 38 = .ok (.ireturn, 1) := by decide +kernel
theorem dX2_target_39 : decode cX2_target 39 = .ok (.aload_n 1, 1) := by decide +kernel
theorem dX2_target_40 : decode cX2_target 40 = .ok (.aload_n 0, 1) := by decide +kernel
theorem dX2_target_41 : decode cX2_target 41 = .ok (.invokevirtual 15, 3) := by decide +kernel
theorem dX2_target_44 : decode cX2_target 44 = .ok (.invokevirtual 33, 3) := by decide +kernel
theorem dX2_target_47 : decode cX2_target 47 = .ok (.aload_n 0, 1) := by decide +kernel
theorem dX2_target_48 : decode cX2_target 48 = .ok (.invokevirtual 40, 3) := by decide +kernel
theorem dX2_target_51 : decode cX2_target 51 = .ok (.i2l, 1) := by decide +kernel
theorem dX2_target_52 : decode cX2_target 52 = .ok (.ldc2_w 43, 3) := by decide +kernel
theorem dX2_target_55 : decode cX2_target 55 = .ok (.invokestatic 45, 3) := by decide +kernel
theorem dX2_target_58 : decode cX2_target 58 = .ok (.l2i, 1) := by decide +kernel
theorem dX2_target_59 : decode cX2_target 59 = .ok (.ireturn, 1) := by decide +kernel
theorem dX2_target_60 : decode cX2_target 60 = .ok (.aload_n 0, 1) := by decide +kernel
theorem dX2_target_61 : decode cX2_target 61 = .ok (.invokevirtual 40, 3) := by decide +kernel
theorem dX2_target_64 : decode cX2_target 64 = .ok (.ireturn, 1) := by decide +kernel
theorem dX2_wayBack_0 : decode cX2_wayBack 0 = .ok (.ldc2_w 51, 3) := by decide +kernel
theorem dX2_wayBack_3 : decode cX2_wayBack 3 = .ok (.iload_n 0, 1) := by decide +kernel
theorem dX2_wayBack_4 : decode cX2_wayBack 4 = .ok (.iconst 1, 1) := by decide +kernel
theorem dX2_wayBack_5 : decode cX2_wayBack 5 = .ok (.iadd, 1) := by decide +kernel
theorem dX2_wayBack_6 : decode cX2_wayBack 6 = .ok (.i2l, 1) := by decide +kernel
theorem dX2_wayBack_7 : decode cX2_wayBack 7 = .ok (.bipush 30, 2) := by decide +kernel
theorem dX2_wayBack_9 : decode cX2_wayBack 9 = .ok (.lshl, 1) := by decide +kernel
theorem dX2_wayBack_10 : decode cX2_wayBack 10 = .ok (.lor, 1) := by decide +kernel
theorem dX2_wayBack_11 : decode cX2_wayBack 11 = .ok (.lreturn, 1) := by decide +kernel
set_option maxRecDepth 20000 in
theorem ggX2_wordHolds_X4_isZero_1 : ∀ w ∈ ([.constantLong RX4 17 (1152921504606846975)] : List Cond), w ∈ wsX2_wordHolds := List.forall_mem_cons.mpr ⟨List.mem_of_getElem? (i := 5) rfl, fun _ h => nomatch h⟩
theorem ggX2_wordHolds_X4_isZero_m : ∀ w ∈ wsX4_isZero, w ∈ wsX2_wordHolds := fun w h => (List.mem_cons.mp h).elim (fun e => by rw [e]; exact List.mem_of_getElem? (i := 4) rfl) (fun h => ggX2_wordHolds_X4_isZero_1 w h)
set_option maxRecDepth 20000 in
theorem ggX2_wordHolds_X4_isZero : GoodIn wsX2_wordHolds wsX4_isZero := goodIn_sub ggX2_wordHolds_X4_isZero_m (by decide +kernel)
set_option maxRecDepth 20000 in
theorem ggX2_wordHolds_X4_isNegative_1 : ∀ w ∈ ([] : List Cond), w ∈ wsX2_wordHolds := fun _ h => nomatch h
theorem ggX2_wordHolds_X4_isNegative_m : ∀ w ∈ wsX4_isNegative, w ∈ wsX2_wordHolds := fun w h => (List.mem_cons.mp h).elim (fun e => by rw [e]; exact List.mem_of_getElem? (i := 8) rfl) (fun h => ggX2_wordHolds_X4_isNegative_1 w h)
set_option maxRecDepth 20000 in
theorem ggX2_wordHolds_X4_isNegative : GoodIn wsX2_wordHolds wsX4_isNegative := goodIn_sub ggX2_wordHolds_X4_isNegative_m (by decide +kernel)
theorem dX2_wordHolds_0 : decode cX2_wordHolds 0 = .ok (.iload_n 0, 1) := by decide +kernel
theorem dX2_wordHolds_1 : decode cX2_wordHolds 1 = .ok (.tableswitch 58 0 2 #[27, 32, 45], 27) := by decide +kernel
theorem dX2_wordHolds_28 : decode cX2_wordHolds 28 = .ok (.lload_n 1, 1) := by decide +kernel
theorem dX2_wordHolds_29 : decode cX2_wordHolds 29 = .ok (.invokestatic 53, 3) := by decide +kernel
theorem dX2_wordHolds_32 : decode cX2_wordHolds 32 = .ok (.ireturn, 1) := by decide +kernel
theorem dX2_wordHolds_33 : decode cX2_wordHolds 33 = .ok (.lload_n 1, 1) := by decide +kernel
theorem dX2_wordHolds_34 : decode cX2_wordHolds 34 = .ok (.invokestatic 53, 3) := by decide +kernel
theorem dX2_wordHolds_37 : decode cX2_wordHolds 37 = .ok (.ifCond .ne 7, 3) := by decide +kernel
theorem dX2_wordHolds_40 : decode cX2_wordHolds 40 = .ok (.iconst 1, 1) := by decide +kernel
theorem dX2_wordHolds_41 : decode cX2_wordHolds 41 = .ok (.goto 4, 3) := by decide +kernel
theorem dX2_wordHolds_44 : decode cX2_wordHolds 44 = .ok (.iconst 0, 1) := by decide +kernel
theorem dX2_wordHolds_45 : decode cX2_wordHolds 45 = .ok (.ireturn, 1) := by decide +kernel
theorem dX2_wordHolds_46 : decode cX2_wordHolds 46 = .ok (.lload_n 1, 1) := by decide +kernel
theorem dX2_wordHolds_47 : decode cX2_wordHolds 47 = .ok (.invokestatic 57, 3) := by decide +kernel
theorem dX2_wordHolds_50 : decode cX2_wordHolds 50 = .ok (.ifCond .ne 7, 3) := by decide +kernel
theorem dX2_wordHolds_53 : decode cX2_wordHolds 53 = .ok (.iconst 1, 1) := by decide +kernel
theorem dX2_wordHolds_54 : decode cX2_wordHolds 54 = .ok (.goto 4, 3) := by decide +kernel
theorem dX2_wordHolds_57 : decode cX2_wordHolds 57 = .ok (.iconst 0, 1) := by decide +kernel
theorem dX2_wordHolds_58 : decode cX2_wordHolds 58 = .ok (.ireturn, 1) := by decide +kernel
theorem dX2_wordHolds_59 : decode cX2_wordHolds 59 = .ok (.lload_n 1, 1) := by decide +kernel
theorem dX2_wordHolds_60 : decode cX2_wordHolds 60 = .ok (.invokestatic 57, 3) := by decide +kernel
theorem dX2_wordHolds_63 : decode cX2_wordHolds 63 = .ok (.ireturn, 1) := by decide +kernel
set_option maxRecDepth 20000 in
theorem ggX2_shortsHold_X4_plain_1 : ∀ w ∈ ([.constantLong RX4 25 (262143), .methodLink RX4 19 yX4_isShortNegative, .static yX4_isShortNegative, .initialized RX4, .code yX4_isShortNegative cX4_isShortNegative 2 (some .boolean), .constantLong RX4 15 (131071)] : List Cond), w ∈ wsX2_shortsHold := List.forall_mem_cons.mpr ⟨List.mem_of_getElem? (i := 5) rfl, List.forall_mem_cons.mpr ⟨List.mem_of_getElem? (i := 6) rfl, List.forall_mem_cons.mpr ⟨List.mem_of_getElem? (i := 7) rfl, List.forall_mem_cons.mpr ⟨List.mem_of_getElem? (i := 3) rfl, List.forall_mem_cons.mpr ⟨List.mem_of_getElem? (i := 8) rfl, List.forall_mem_cons.mpr ⟨List.mem_of_getElem? (i := 9) rfl, fun _ h => nomatch h⟩⟩⟩⟩⟩⟩
theorem ggX2_shortsHold_X4_plain_m : ∀ w ∈ wsX4_plain, w ∈ wsX2_shortsHold := fun w h => (List.mem_cons.mp h).elim (fun e => by rw [e]; exact List.mem_of_getElem? (i := 4) rfl) (fun h => ggX2_shortsHold_X4_plain_1 w h)
set_option maxRecDepth 20000 in
theorem ggX2_shortsHold_X4_plain : GoodIn wsX2_shortsHold wsX4_plain := goodIn_sub ggX2_shortsHold_X4_plain_m (by decide +kernel)
set_option maxRecDepth 20000 in
theorem ggX2_shortsHold_J13_compare_74951_1 : ∀ w ∈ ([] : List Cond), w ∈ wsX2_shortsHold := fun _ h => nomatch h
theorem ggX2_shortsHold_J13_compare_74951_m : ∀ w ∈ wsJ13_compare_74951, w ∈ wsX2_shortsHold := fun w h => (List.mem_cons.mp h).elim (fun e => by rw [e]; exact List.mem_of_getElem? (i := 13) rfl) (fun h => ggX2_shortsHold_J13_compare_74951_1 w h)
set_option maxRecDepth 20000 in
theorem ggX2_shortsHold_J13_compare_74951 : GoodIn wsX2_shortsHold wsJ13_compare_74951 := goodIn_sub ggX2_shortsHold_J13_compare_74951_m (by decide +kernel)
theorem dX2_shortsHold_0 : decode cX2_shortsHold 0 = .ok (.lload_n 1, 1) := by decide +kernel
theorem dX2_shortsHold_1 : decode cX2_shortsHold 1 = .ok (.invokestatic 60, 3) := by decide +kernel
theorem dX2_shortsHold_4 : decode cX2_shortsHold 4 = .ok (.lload_n 3, 1) := by decide +kernel
theorem dX2_shortsHold_5 : decode cX2_shortsHold 5 = .ok (.invokestatic 60, 3) := by decide +kernel
theorem dX2_shortsHold_8 : decode cX2_shortsHold 8 = .ok (.invokestatic 64, 3) := by decide +kernel
theorem dX2_shortsHold_11 : decode cX2_shortsHold 11 = .ok (.istore 5, 2) := by decide +kernel
theorem dX2_shortsHold_13 : decode cX2_shortsHold 13 = .ok (.iload_n 0, 1) := by decide +kernel
theorem dX2_shortsHold_14 : decode cX2_shortsHold 14 = .ok (.tableswitch 59 4 6 #[26, 37, 48], 26) := by decide +kernel
theorem dX2_shortsHold_40 : decode cX2_shortsHold 40 = .ok (.iload 5, 2) := by decide +kernel
theorem dX2_shortsHold_42 : decode cX2_shortsHold 42 = .ok (.ifCond .ne 7, 3) := by decide +kernel
theorem dX2_shortsHold_45 : decode cX2_shortsHold 45 = .ok (.iconst 1, 1) := by decide +kernel
theorem dX2_shortsHold_46 : decode cX2_shortsHold 46 = .ok (.goto 4, 3) := by decide +kernel
theorem dX2_shortsHold_49 : decode cX2_shortsHold 49 = .ok (.iconst 0, 1) := by decide +kernel
theorem dX2_shortsHold_50 : decode cX2_shortsHold 50 = .ok (.ireturn, 1) := by decide +kernel
theorem dX2_shortsHold_51 : decode cX2_shortsHold 51 = .ok (.iload 5, 2) := by decide +kernel
theorem dX2_shortsHold_53 : decode cX2_shortsHold 53 = .ok (.ifCond .eq 7, 3) := by decide +kernel
theorem dX2_shortsHold_56 : decode cX2_shortsHold 56 = .ok (.iconst 1, 1) := by decide +kernel
theorem dX2_shortsHold_57 : decode cX2_shortsHold 57 = .ok (.goto 4, 3) := by decide +kernel
theorem dX2_shortsHold_60 : decode cX2_shortsHold 60 = .ok (.iconst 0, 1) := by decide +kernel
theorem dX2_shortsHold_61 : decode cX2_shortsHold 61 = .ok (.ireturn, 1) := by decide +kernel
theorem dX2_shortsHold_62 : decode cX2_shortsHold 62 = .ok (.iload 5, 2) := by decide +kernel
theorem dX2_shortsHold_64 : decode cX2_shortsHold 64 = .ok (.ifCond .lt 7, 3) := by decide +kernel
theorem dX2_shortsHold_67 : decode cX2_shortsHold 67 = .ok (.iconst 1, 1) := by decide +kernel
theorem dX2_shortsHold_68 : decode cX2_shortsHold 68 = .ok (.goto 4, 3) := by decide +kernel
theorem dX2_shortsHold_71 : decode cX2_shortsHold 71 = .ok (.iconst 0, 1) := by decide +kernel
theorem dX2_shortsHold_72 : decode cX2_shortsHold 72 = .ok (.ireturn, 1) := by decide +kernel
theorem dX2_shortsHold_73 : decode cX2_shortsHold 73 = .ok (.iload 5, 2) := by decide +kernel
theorem dX2_shortsHold_75 : decode cX2_shortsHold 75 = .ok (.ifCond .ge 7, 3) := by decide +kernel
theorem dX2_shortsHold_78 : decode cX2_shortsHold 78 = .ok (.iconst 1, 1) := by decide +kernel
theorem dX2_shortsHold_79 : decode cX2_shortsHold 79 = .ok (.goto 4, 3) := by decide +kernel
theorem dX2_shortsHold_82 : decode cX2_shortsHold 82 = .ok (.iconst 0, 1) := by decide +kernel
theorem dX2_shortsHold_83 : decode cX2_shortsHold 83 = .ok (.ireturn, 1) := by decide +kernel
theorem dX3_init_0 : decode cX3_init 0 = .ok (.aload_n 0, 1) := by decide +kernel
theorem dX3_init_1 : decode cX3_init 1 = .ok (.invokespecial 3, 3) := by decide +kernel
theorem dX3_init_4 : decode cX3_init 4 = .ok (.aload_n 0, 1) := by decide +kernel
theorem dX3_init_5 : decode cX3_init 5 = .ok (.sipush 512, 3) := by decide +kernel
theorem dX3_init_8 : decode cX3_init 8 = .ok (.newarray .long, 2) := by decide +kernel
theorem dX3_init_10 : decode cX3_init 10 = .ok (.putfield 9, 3) := by decide +kernel
theorem dX3_init_13 : decode cX3_init 13 = .ok (.aload_n 0, 1) := by decide +kernel
theorem dX3_init_14 : decode cX3_init 14 = .ok (.sipush 512, 3) := by decide +kernel
theorem dX3_init_17 : decode cX3_init 17 = .ok (.newarray .long, 2) := by decide +kernel
theorem dX3_init_19 : decode cX3_init 19 = .ok (.putfield 15, 3) := by decide +kernel
theorem dX3_init_22 : decode cX3_init 22 = .ok (.return_, 1) := by decide +kernel
theorem dX3_holds_0 : decode cX3_holds 0 = .ok (.iload_n 0, 1) := by decide +kernel
theorem dX3_holds_1 : decode cX3_holds 1 = .ok (.ifCond .lt 14, 3) := by decide +kernel
theorem dX3_holds_4 : decode cX3_holds 4 = .ok (.iload_n 0, 1) := by decide +kernel
theorem dX3_holds_5 : decode cX3_holds 5 = .ok (.sipush 512, 3) := by decide +kernel
theorem dX3_holds_8 : decode cX3_holds 8 = .ok (.if_icmp .ge 7, 3) := by decide +kernel
theorem dX3_holds_11 : decode cX3_holds 11 = .ok (.iconst 1, 1) := by decide +kernel
theorem dX3_holds_12 : decode cX3_holds 12 = .ok (.goto 4, 3) := by decide +kernel
theorem dX3_holds_15 : decode cX3_holds 15 = .ok (.iconst 0, 1) := by decide +kernel
theorem dX3_holds_16 : decode cX3_holds 16 = .ok (.ireturn, 1) := by decide +kernel
set_option maxRecDepth 20000 in
theorem ggX3_load_X3_holds_1 : ∀ w ∈ ([] : List Cond), w ∈ wsX3_load := fun _ h => nomatch h
theorem ggX3_load_X3_holds_m : ∀ w ∈ wsX3_holds, w ∈ wsX3_load := fun w h => (List.mem_cons.mp h).elim (fun e => by rw [e]; exact List.mem_of_getElem? (i := 5) rfl) (fun h => ggX3_load_X3_holds_1 w h)
set_option maxRecDepth 20000 in
theorem ggX3_load_X3_holds : GoodIn wsX3_load wsX3_holds := goodIn_sub ggX3_load_X3_holds_m (by decide +kernel)
theorem dX3_load_0 : decode cX3_load 0 = .ok (.iload_n 1, 1) := by decide +kernel
theorem dX3_load_1 : decode cX3_load 1 = .ok (.invokestatic 18, 3) := by decide +kernel
theorem dX3_load_4 : decode cX3_load 4 = .ok (.ifCond .eq 12, 3) := by decide +kernel
theorem dX3_load_7 : decode cX3_load 7 = .ok (.aload_n 0, 1) := by decide +kernel
theorem dX3_load_8 : decode cX3_load 8 = .ok (.getfield 9, 3) := by decide +kernel
theorem dX3_load_11 : decode cX3_load 11 = .ok (.iload_n 1, 1) := by decide +kernel
theorem dX3_load_12 : decode cX3_load 12 = .ok (.laload, 1) := by decide +kernel
theorem dX3_load_13 : decode cX3_load 13 = .ok (.goto 4, 3) := by decide +kernel
theorem dX3_load_16 : decode cX3_load 16 = .ok (.lconst 0, 1) := by decide +kernel
theorem dX3_load_17 : decode cX3_load 17 = .ok (.lreturn, 1) := by decide +kernel
set_option maxRecDepth 20000 in
theorem ggX3_store_X3_holds_1 : ∀ w ∈ ([] : List Cond), w ∈ wsX3_store := fun _ h => nomatch h
theorem ggX3_store_X3_holds_m : ∀ w ∈ wsX3_holds, w ∈ wsX3_store := fun w h => (List.mem_cons.mp h).elim (fun e => by rw [e]; exact List.mem_of_getElem? (i := 6) rfl) (fun h => ggX3_store_X3_holds_1 w h)
set_option maxRecDepth 20000 in
theorem ggX3_store_X3_holds : GoodIn wsX3_store wsX3_holds := goodIn_sub ggX3_store_X3_holds_m (by decide +kernel)
theorem dX3_store_0 : decode cX3_store 0 = .ok (.iload_n 1, 1) := by decide +kernel
theorem dX3_store_1 : decode cX3_store 1 = .ok (.invokestatic 18, 3) := by decide +kernel
theorem dX3_store_4 : decode cX3_store 4 = .ok (.ifCond .eq 14, 3) := by decide +kernel
theorem dX3_store_7 : decode cX3_store 7 = .ok (.aload_n 0, 1) := by decide +kernel
theorem dX3_store_8 : decode cX3_store 8 = .ok (.getfield 9, 3) := by decide +kernel
theorem dX3_store_11 : decode cX3_store 11 = .ok (.iload_n 1, 1) := by decide +kernel
theorem dX3_store_12 : decode cX3_store 12 = .ok (.lload_n 2, 1) := by decide +kernel
theorem dX3_store_13 : decode cX3_store 13 = .ok (.ldc2_w 22, 3) := by decide +kernel
theorem dX3_store_16 : decode cX3_store 16 = .ok (.land, 1) := by decide +kernel
theorem dX3_store_17 : decode cX3_store 17 = .ok (.lastore, 1) := by decide +kernel
theorem dX3_store_18 : decode cX3_store 18 = .ok (.return_, 1) := by decide +kernel
theorem dX3_keepProgram_0 : decode cX3_keepProgram 0 = .ok (.aload_n 0, 1) := by decide +kernel
theorem dX3_keepProgram_1 : decode cX3_keepProgram 1 = .ok (.getfield 9, 3) := by decide +kernel
theorem dX3_keepProgram_4 : decode cX3_keepProgram 4 = .ok (.iconst 0, 1) := by decide +kernel
theorem dX3_keepProgram_5 : decode cX3_keepProgram 5 = .ok (.aload_n 0, 1) := by decide +kernel
theorem dX3_keepProgram_6 : decode cX3_keepProgram 6 = .ok (.getfield 15, 3) := by decide +kernel
theorem dX3_keepProgram_9 : decode cX3_keepProgram 9 = .ok (.iconst 0, 1) := by decide +kernel
theorem dX3_keepProgram_10 : decode cX3_keepProgram 10 = .ok (.sipush 512, 3) := by decide +kernel
theorem dX3_keepProgram_13 : decode cX3_keepProgram 13 = .ok (.invokestatic 24, 3) := by decide +kernel
theorem dX3_keepProgram_16 : decode cX3_keepProgram 16 = .ok (.return_, 1) := by decide +kernel
set_option maxRecDepth 20000 in
theorem ggX3_programWord_X3_holds_1 : ∀ w ∈ ([] : List Cond), w ∈ wsX3_programWord := fun _ h => nomatch h
theorem ggX3_programWord_X3_holds_m : ∀ w ∈ wsX3_holds, w ∈ wsX3_programWord := fun w h => (List.mem_cons.mp h).elim (fun e => by rw [e]; exact List.mem_of_getElem? (i := 5) rfl) (fun h => ggX3_programWord_X3_holds_1 w h)
set_option maxRecDepth 20000 in
theorem ggX3_programWord_X3_holds : GoodIn wsX3_programWord wsX3_holds := goodIn_sub ggX3_programWord_X3_holds_m (by decide +kernel)
theorem dX3_programWord_0 : decode cX3_programWord 0 = .ok (.iload_n 1, 1) := by decide +kernel
theorem dX3_programWord_1 : decode cX3_programWord 1 = .ok (.invokestatic 18, 3) := by decide +kernel
theorem dX3_programWord_4 : decode cX3_programWord 4 = .ok (.ifCond .eq 12, 3) := by decide +kernel
theorem dX3_programWord_7 : decode cX3_programWord 7 = .ok (.aload_n 0, 1) := by decide +kernel
theorem dX3_programWord_8 : decode cX3_programWord 8 = .ok (.getfield 15, 3) := by decide +kernel
theorem dX3_programWord_11 : decode cX3_programWord 11 = .ok (.iload_n 1, 1) := by decide +kernel
theorem dX3_programWord_12 : decode cX3_programWord 12 = .ok (.laload, 1) := by decide +kernel
theorem dX3_programWord_13 : decode cX3_programWord 13 = .ok (.goto 4, 3) := by decide +kernel
theorem dX3_programWord_16 : decode cX3_programWord 16 = .ok (.lconst 0, 1) := by decide +kernel
theorem dX3_programWord_17 : decode cX3_programWord 17 = .ok (.lreturn, 1) := by decide +kernel
set_option maxRecDepth 20000 in
theorem ggX3_storeInProgram_X3_store_1 : ∀ w ∈ ([.fieldLink RX3 9 "ScoreboardCore$Memory" "words" "[J", .constantLong RX3 22 (1152921504606846975), .methodLink RX3 18 yX3_holds, .static yX3_holds, .initialized RX3, .code yX3_holds cX3_holds 1 (some .boolean)] : List Cond), w ∈ wsX3_storeInProgram := List.forall_mem_cons.mpr ⟨List.mem_of_getElem? (i := 8) rfl, List.forall_mem_cons.mpr ⟨List.mem_of_getElem? (i := 2) rfl, List.forall_mem_cons.mpr ⟨List.mem_of_getElem? (i := 9) rfl, List.forall_mem_cons.mpr ⟨List.mem_of_getElem? (i := 10) rfl, List.forall_mem_cons.mpr ⟨List.mem_of_getElem? (i := 6) rfl, List.forall_mem_cons.mpr ⟨List.mem_of_getElem? (i := 11) rfl, fun _ h => nomatch h⟩⟩⟩⟩⟩⟩
set_option maxRecDepth 20000 in
theorem ggX3_storeInProgram_X3_store_2 : ∀ w ∈ wsX30, w ∈ wsX3_storeInProgram := fun w h => List.mem_cons_of_mem _ (List.mem_append_right _ (h))
theorem ggX3_storeInProgram_X3_store_m : ∀ w ∈ wsX3_store, w ∈ wsX3_storeInProgram := fun w h => (List.mem_cons.mp h).elim (fun e => by rw [e]; exact List.mem_of_getElem? (i := 7) rfl) (fun h => (List.mem_append.mp h).elim (fun h => ggX3_storeInProgram_X3_store_1 w h) (fun h => ggX3_storeInProgram_X3_store_2 w h))
set_option maxRecDepth 20000 in
theorem ggX3_storeInProgram_X3_store : GoodIn wsX3_storeInProgram wsX3_store := goodIn_sub ggX3_storeInProgram_X3_store_m (by decide +kernel)
set_option maxRecDepth 20000 in
theorem ggX3_storeInProgram_X3_holds_1 : ∀ w ∈ ([] : List Cond), w ∈ wsX3_storeInProgram := fun _ h => nomatch h
theorem ggX3_storeInProgram_X3_holds_m : ∀ w ∈ wsX3_holds, w ∈ wsX3_storeInProgram := fun w h => (List.mem_cons.mp h).elim (fun e => by rw [e]; exact List.mem_of_getElem? (i := 11) rfl) (fun h => ggX3_storeInProgram_X3_holds_1 w h)
set_option maxRecDepth 20000 in
theorem ggX3_storeInProgram_X3_holds : GoodIn wsX3_storeInProgram wsX3_holds := goodIn_sub ggX3_storeInProgram_X3_holds_m (by decide +kernel)
theorem dX3_storeInProgram_0 : decode cX3_storeInProgram 0 = .ok (.aload_n 0, 1) := by decide +kernel
theorem dX3_storeInProgram_1 : decode cX3_storeInProgram 1 = .ok (.iload_n 1, 1) := by decide +kernel
theorem dX3_storeInProgram_2 : decode cX3_storeInProgram 2 = .ok (.lload_n 2, 1) := by decide +kernel
theorem dX3_storeInProgram_3 : decode cX3_storeInProgram 3 = .ok (.invokevirtual 30, 3) := by decide +kernel
theorem dX3_storeInProgram_6 : decode cX3_storeInProgram 6 = .ok (.iload_n 1, 1) := by decide +kernel
theorem dX3_storeInProgram_7 : decode cX3_storeInProgram 7 = .ok (.invokestatic 18, 3) := by decide +kernel
theorem dX3_storeInProgram_10 : decode cX3_storeInProgram 10 = .ok (.ifCond .eq 14, 3) := by decide +kernel
theorem dX3_storeInProgram_13 : decode cX3_storeInProgram 13 = .ok (.aload_n 0, 1) := by decide +kernel
theorem dX3_storeInProgram_14 : decode cX3_storeInProgram 14 = .ok (.getfield 15, 3) := by decide +kernel
theorem dX3_storeInProgram_17 : decode cX3_storeInProgram 17 = .ok (.iload_n 1, 1) := by decide +kernel
theorem dX3_storeInProgram_18 : decode cX3_storeInProgram 18 = .ok (.lload_n 2, 1) := by decide +kernel
theorem dX3_storeInProgram_19 : decode cX3_storeInProgram 19 = .ok (.ldc2_w 22, 3) := by decide +kernel
theorem dX3_storeInProgram_22 : decode cX3_storeInProgram 22 = .ok (.land, 1) := by decide +kernel
theorem dX3_storeInProgram_23 : decode cX3_storeInProgram 23 = .ok (.lastore, 1) := by decide +kernel
theorem dX3_storeInProgram_24 : decode cX3_storeInProgram 24 = .ok (.return_, 1) := by decide +kernel
theorem dX4_sum_0 : decode cX4_sum 0 = .ok (.lload_n 0, 1) := by decide +kernel
theorem dX4_sum_1 : decode cX4_sum 1 = .ok (.lload_n 2, 1) := by decide +kernel
theorem dX4_sum_2 : decode cX4_sum 2 = .ok (.ladd, 1) := by decide +kernel
theorem dX4_sum_3 : decode cX4_sum 3 = .ok (.lstore 6, 2) := by decide +kernel
theorem dX4_sum_5 : decode cX4_sum 5 = .ok (.lload 6, 2) := by decide +kernel
theorem dX4_sum_7 : decode cX4_sum 7 = .ok (.lload 4, 2) := by decide +kernel
theorem dX4_sum_9 : decode cX4_sum 9 = .ok (.lcmp, 1) := by decide +kernel
theorem dX4_sum_10 : decode cX4_sum 10 = .ok (.ifCond .le 12, 3) := by decide +kernel
theorem dX4_sum_13 : decode cX4_sum 13 = .ok (.lload 6, 2) := by decide +kernel
theorem dX4_sum_15 : decode cX4_sum 15 = .ok (.lload 4, 2) := by decide +kernel
theorem dX4_sum_17 : decode cX4_sum 17 = .ok (.land, 1) := by decide +kernel
theorem dX4_sum_18 : decode cX4_sum 18 = .ok (.lconst 1, 1) := by decide +kernel
theorem dX4_sum_19 : decode cX4_sum 19 = .ok (.ladd, 1) := by decide +kernel
theorem dX4_sum_20 : decode cX4_sum 20 = .ok (.lstore 6, 2) := by decide +kernel
theorem dX4_sum_22 : decode cX4_sum 22 = .ok (.lload_n 0, 1) := by decide +kernel
theorem dX4_sum_23 : decode cX4_sum 23 = .ok (.lload 4, 2) := by decide +kernel
theorem dX4_sum_25 : decode cX4_sum 25 = .ok (.lcmp, 1) := by decide +kernel
theorem dX4_sum_26 : decode cX4_sum 26 = .ok (.ifCond .ne 14, 3) := by decide +kernel
theorem dX4_sum_29 : decode cX4_sum 29 = .ok (.lload_n 2, 1) := by decide +kernel
theorem dX4_sum_30 : decode cX4_sum 30 = .ok (.lload 4, 2) := by decide +kernel
theorem dX4_sum_32 : decode cX4_sum 32 = .ok (.lcmp, 1) := by decide +kernel
theorem dX4_sum_33 : decode cX4_sum 33 = .ok (.ifCond .ne 7, 3) := by decide +kernel
theorem dX4_sum_36 : decode cX4_sum 36 = .ok (.iconst 1, 1) := by decide +kernel
theorem dX4_sum_37 : decode cX4_sum 37 = .ok (.goto 4, 3) := by decide +kernel
theorem dX4_sum_40 : decode cX4_sum 40 = .ok (.iconst 0, 1) := by decide +kernel
theorem dX4_sum_41 : decode cX4_sum 41 = .ok (.istore 8, 2) := by decide +kernel
theorem dX4_sum_43 : decode cX4_sum 43 = .ok (.lload 6, 2) := by decide +kernel
theorem dX4_sum_45 : decode cX4_sum 45 = .ok (.lload 4, 2) := by decide +kernel
theorem dX4_sum_47 : decode cX4_sum 47 = .ok (.lcmp, 1) := by decide +kernel
theorem dX4_sum_48 : decode cX4_sum 48 = .ok (.ifCond .ne 12, 3) := by decide +kernel
theorem dX4_sum_51 : decode cX4_sum 51 = .ok (.iload 8, 2) := by decide +kernel
theorem dX4_sum_53 : decode cX4_sum 53 = .ok (.ifCond .ne 7, 3) := by decide +kernel
theorem dX4_sum_56 : decode cX4_sum 56 = .ok (.lconst 0, 1) := by decide +kernel
theorem dX4_sum_57 : decode cX4_sum 57 = .ok (.goto 5, 3) := by decide +kernel
theorem dX4_sum_60 : decode cX4_sum 60 = .ok (.lload 6, 2) := by decide +kernel
theorem dX4_sum_62 : decode cX4_sum 62 = .ok (.lreturn, 1) := by decide +kernel
set_option maxRecDepth 20000 in
theorem ggX4_difference_X4_sum_1 : ∀ w ∈ ([] : List Cond), w ∈ wsX4_difference := fun _ h => nomatch h
theorem ggX4_difference_X4_sum_m : ∀ w ∈ wsX4_sum, w ∈ wsX4_difference := fun w h => (List.mem_cons.mp h).elim (fun e => by rw [e]; exact List.mem_of_getElem? (i := 4) rfl) (fun h => ggX4_difference_X4_sum_1 w h)
set_option maxRecDepth 20000 in
theorem ggX4_difference_X4_sum : GoodIn wsX4_difference wsX4_sum := goodIn_sub ggX4_difference_X4_sum_m (by decide +kernel)
theorem dX4_difference_0 : decode cX4_difference 0 = .ok (.lload_n 0, 1) := by decide +kernel
theorem dX4_difference_1 : decode cX4_difference 1 = .ok (.lload_n 2, 1) := by decide +kernel
theorem dX4_difference_2 : decode cX4_difference 2 = .ok (.lload 4, 2) := by decide +kernel
theorem dX4_difference_4 : decode cX4_difference 4 = .ok (.lxor, 1) := by decide +kernel
theorem dX4_difference_5 : decode cX4_difference 5 = .ok (.lload 4, 2) := by decide +kernel
theorem dX4_difference_7 : decode cX4_difference 7 = .ok (.invokestatic 9, 3) := by decide +kernel
theorem dX4_difference_10 : decode cX4_difference 10 = .ok (.lreturn, 1) := by decide +kernel
theorem dX4_isNegative_0 : decode cX4_isNegative 0 = .ok (.lload_n 0, 1) := by decide +kernel
theorem dX4_isNegative_1 : decode cX4_isNegative 1 = .ok (.bipush 59, 2) := by decide +kernel
theorem dX4_isNegative_3 : decode cX4_isNegative 3 = .ok (.lshr, 1) := by decide +kernel
theorem dX4_isNegative_4 : decode cX4_isNegative 4 = .ok (.lconst 1, 1) := by decide +kernel
theorem dX4_isNegative_5 : decode cX4_isNegative 5 = .ok (.land, 1) := by decide +kernel
theorem dX4_isNegative_6 : decode cX4_isNegative 6 = .ok (.lconst 0, 1) := by decide +kernel
theorem dX4_isNegative_7 : decode cX4_isNegative 7 = .ok (.lcmp, 1) := by decide +kernel
theorem dX4_isNegative_8 : decode cX4_isNegative 8 = .ok (.ifCond .eq 7, 3) := by decide +kernel
theorem dX4_isNegative_11 : decode cX4_isNegative 11 = .ok (.iconst 1, 1) := by decide +kernel
theorem dX4_isNegative_12 : decode cX4_isNegative 12 = .ok (.goto 4, 3) := by decide +kernel
theorem dX4_isNegative_15 : decode cX4_isNegative 15 = .ok (.iconst 0, 1) := by decide +kernel
theorem dX4_isNegative_16 : decode cX4_isNegative 16 = .ok (.ireturn, 1) := by decide +kernel
theorem dX4_isShortNegative_0 : decode cX4_isShortNegative 0 = .ok (.lload_n 0, 1) := by decide +kernel
theorem dX4_isShortNegative_1 : decode cX4_isShortNegative 1 = .ok (.ldc2_w 15, 3) := by decide +kernel
theorem dX4_isShortNegative_4 : decode cX4_isShortNegative 4 = .ok (.lcmp, 1) := by decide +kernel
theorem dX4_isShortNegative_5 : decode cX4_isShortNegative 5 = .ok (.ifCond .le 7, 3) := by decide +kernel
theorem dX4_isShortNegative_8 : decode cX4_isShortNegative 8 = .ok (.iconst 1, 1) := by decide +kernel
theorem dX4_isShortNegative_9 : decode cX4_isShortNegative 9 = .ok (.goto 4, 3) := by decide +kernel
theorem dX4_isShortNegative_12 : decode cX4_isShortNegative 12 = .ok (.iconst 0, 1) := by decide +kernel
theorem dX4_isShortNegative_13 : decode cX4_isShortNegative 13 = .ok (.ireturn, 1) := by decide +kernel
theorem dX4_isZero_0 : decode cX4_isZero 0 = .ok (.lload_n 0, 1) := by decide +kernel
theorem dX4_isZero_1 : decode cX4_isZero 1 = .ok (.lconst 0, 1) := by decide +kernel
theorem dX4_isZero_2 : decode cX4_isZero 2 = .ok (.lcmp, 1) := by decide +kernel
theorem dX4_isZero_3 : decode cX4_isZero 3 = .ok (.ifCond .eq 11, 3) := by decide +kernel
theorem dX4_isZero_6 : decode cX4_isZero 6 = .ok (.lload_n 0, 1) := by decide +kernel
theorem dX4_isZero_7 : decode cX4_isZero 7 = .ok (.ldc2_w 17, 3) := by decide +kernel
theorem dX4_isZero_10 : decode cX4_isZero 10 = .ok (.lcmp, 1) := by decide +kernel
theorem dX4_isZero_11 : decode cX4_isZero 11 = .ok (.ifCond .ne 7, 3) := by decide +kernel
theorem dX4_isZero_14 : decode cX4_isZero 14 = .ok (.iconst 1, 1) := by decide +kernel
theorem dX4_isZero_15 : decode cX4_isZero 15 = .ok (.goto 4, 3) := by decide +kernel
theorem dX4_isZero_18 : decode cX4_isZero 18 = .ok (.iconst 0, 1) := by decide +kernel
theorem dX4_isZero_19 : decode cX4_isZero 19 = .ok (.ireturn, 1) := by decide +kernel
set_option maxRecDepth 20000 in
theorem ggX4_extended_X4_isShortNegative_1 : ∀ w ∈ ([.constantLong RX4 15 (131071)] : List Cond), w ∈ wsX4_extended := List.forall_mem_cons.mpr ⟨List.mem_of_getElem? (i := 6) rfl, fun _ h => nomatch h⟩
theorem ggX4_extended_X4_isShortNegative_m : ∀ w ∈ wsX4_isShortNegative, w ∈ wsX4_extended := fun w h => (List.mem_cons.mp h).elim (fun e => by rw [e]; exact List.mem_of_getElem? (i := 5) rfl) (fun h => ggX4_extended_X4_isShortNegative_1 w h)
set_option maxRecDepth 20000 in
theorem ggX4_extended_X4_isShortNegative : GoodIn wsX4_extended wsX4_isShortNegative := goodIn_sub ggX4_extended_X4_isShortNegative_m (by decide +kernel)
theorem dX4_extended_0 : decode cX4_extended 0 = .ok (.lload_n 0, 1) := by decide +kernel
theorem dX4_extended_1 : decode cX4_extended 1 = .ok (.invokestatic 19, 3) := by decide +kernel
theorem dX4_extended_4 : decode cX4_extended 4 = .ok (.ifCond .eq 11, 3) := by decide +kernel
theorem dX4_extended_7 : decode cX4_extended 7 = .ok (.lload_n 0, 1) := by decide +kernel
theorem dX4_extended_8 : decode cX4_extended 8 = .ok (.ldc2_w 23, 3) := by decide +kernel
theorem dX4_extended_11 : decode cX4_extended 11 = .ok (.lor, 1) := by decide +kernel
theorem dX4_extended_12 : decode cX4_extended 12 = .ok (.goto 4, 3) := by decide +kernel
theorem dX4_extended_15 : decode cX4_extended 15 = .ok (.lload_n 0, 1) := by decide +kernel
theorem dX4_extended_16 : decode cX4_extended 16 = .ok (.lreturn, 1) := by decide +kernel
set_option maxRecDepth 20000 in
theorem ggX4_plain_X4_isShortNegative_1 : ∀ w ∈ ([.constantLong RX4 15 (131071)] : List Cond), w ∈ wsX4_plain := List.forall_mem_cons.mpr ⟨List.mem_of_getElem? (i := 6) rfl, fun _ h => nomatch h⟩
theorem ggX4_plain_X4_isShortNegative_m : ∀ w ∈ wsX4_isShortNegative, w ∈ wsX4_plain := fun w h => (List.mem_cons.mp h).elim (fun e => by rw [e]; exact List.mem_of_getElem? (i := 5) rfl) (fun h => ggX4_plain_X4_isShortNegative_1 w h)
set_option maxRecDepth 20000 in
theorem ggX4_plain_X4_isShortNegative : GoodIn wsX4_plain wsX4_isShortNegative := goodIn_sub ggX4_plain_X4_isShortNegative_m (by decide +kernel)
theorem dX4_plain_0 : decode cX4_plain 0 = .ok (.lload_n 0, 1) := by decide +kernel
theorem dX4_plain_1 : decode cX4_plain 1 = .ok (.invokestatic 19, 3) := by decide +kernel
theorem dX4_plain_4 : decode cX4_plain 4 = .ok (.ifCond .eq 12, 3) := by decide +kernel
theorem dX4_plain_7 : decode cX4_plain 7 = .ok (.lload_n 0, 1) := by decide +kernel
theorem dX4_plain_8 : decode cX4_plain 8 = .ok (.ldc2_w 25, 3) := by decide +kernel
theorem dX4_plain_11 : decode cX4_plain 11 = .ok (.lxor, 1) := by decide +kernel
theorem dX4_plain_12 : decode cX4_plain 12 = .ok (.lneg, 1) := by decide +kernel
theorem dX4_plain_13 : decode cX4_plain 13 = .ok (.goto 4, 3) := by decide +kernel
theorem dX4_plain_16 : decode cX4_plain 16 = .ok (.lload_n 0, 1) := by decide +kernel
theorem dX4_plain_17 : decode cX4_plain 17 = .ok (.lreturn, 1) := by decide +kernel
theorem dX4_turnedRoundLeft_0 : decode cX4_turnedRoundLeft 0 = .ok (.iload_n 2, 1) := by decide +kernel
theorem dX4_turnedRoundLeft_1 : decode cX4_turnedRoundLeft 1 = .ok (.bipush 60, 2) := by decide +kernel
theorem dX4_turnedRoundLeft_3 : decode cX4_turnedRoundLeft 3 = .ok (.irem, 1) := by decide +kernel
theorem dX4_turnedRoundLeft_4 : decode cX4_turnedRoundLeft 4 = .ok (.istore_n 3, 1) := by decide +kernel
theorem dX4_turnedRoundLeft_5 : decode cX4_turnedRoundLeft 5 = .ok (.lload_n 0, 1) := by decide +kernel
theorem dX4_turnedRoundLeft_6 : decode cX4_turnedRoundLeft 6 = .ok (.iload_n 3, 1) := by decide +kernel
theorem dX4_turnedRoundLeft_7 : decode cX4_turnedRoundLeft 7 = .ok (.lshl, 1) := by decide +kernel
theorem dX4_turnedRoundLeft_8 : decode cX4_turnedRoundLeft 8 = .ok (.lload_n 0, 1) := by decide +kernel
theorem dX4_turnedRoundLeft_9 : decode cX4_turnedRoundLeft 9 = .ok (.bipush 60, 2) := by decide +kernel
theorem dX4_turnedRoundLeft_11 : decode cX4_turnedRoundLeft 11 = .ok (.iload_n 3, 1) := by decide +kernel
theorem dX4_turnedRoundLeft_12 : decode cX4_turnedRoundLeft 12 = .ok (.isub, 1) := by decide +kernel
theorem dX4_turnedRoundLeft_13 : decode cX4_turnedRoundLeft 13 = .ok (.lushr, 1) := by decide +kernel
theorem dX4_turnedRoundLeft_14 : decode cX4_turnedRoundLeft 14 = .ok (.lor, 1) := by decide +kernel
theorem dX4_turnedRoundLeft_15 : decode cX4_turnedRoundLeft 15 = .ok (.ldc2_w 17, 3) := by decide +kernel
theorem dX4_turnedRoundLeft_18 : decode cX4_turnedRoundLeft 18 = .ok (.land, 1) := by decide +kernel
theorem dX4_turnedRoundLeft_19 : decode cX4_turnedRoundLeft 19 = .ok (.lreturn, 1) := by decide +kernel
set_option maxRecDepth 20000 in
theorem ggX4_shiftedRight_X4_isNegative_1 : ∀ w ∈ ([] : List Cond), w ∈ wsX4_shiftedRight := fun _ h => nomatch h
theorem ggX4_shiftedRight_X4_isNegative_m : ∀ w ∈ wsX4_isNegative, w ∈ wsX4_shiftedRight := fun w h => (List.mem_cons.mp h).elim (fun e => by rw [e]; exact List.mem_of_getElem? (i := 10) rfl) (fun h => ggX4_shiftedRight_X4_isNegative_1 w h)
set_option maxRecDepth 20000 in
theorem ggX4_shiftedRight_X4_isNegative : GoodIn wsX4_shiftedRight wsX4_isNegative := goodIn_sub ggX4_shiftedRight_X4_isNegative_m (by decide +kernel)
theorem dX4_shiftedRight_0 : decode cX4_shiftedRight 0 = .ok (.lload_n 0, 1) := by decide +kernel
theorem dX4_shiftedRight_1 : decode cX4_shiftedRight 1 = .ok (.invokestatic 27, 3) := by decide +kernel
theorem dX4_shiftedRight_4 : decode cX4_shiftedRight 4 = .ok (.ifCond .eq 11, 3) := by decide +kernel
theorem dX4_shiftedRight_7 : decode cX4_shiftedRight 7 = .ok (.lload_n 0, 1) := by decide +kernel
theorem dX4_shiftedRight_8 : decode cX4_shiftedRight 8 = .ok (.ldc2_w 30, 3) := by decide +kernel
theorem dX4_shiftedRight_11 : decode cX4_shiftedRight 11 = .ok (.lor, 1) := by decide +kernel
theorem dX4_shiftedRight_12 : decode cX4_shiftedRight 12 = .ok (.goto 4, 3) := by decide +kernel
theorem dX4_shiftedRight_15 : decode cX4_shiftedRight 15 = .ok (.lload_n 0, 1) := by decide +kernel
theorem dX4_shiftedRight_16 : decode cX4_shiftedRight 16 = .ok (.lstore_n 3, 1) := by decide +kernel
theorem dX4_shiftedRight_17 : decode cX4_shiftedRight 17 = .ok (.lload_n 3, 1) := by decide +kernel
theorem dX4_shiftedRight_18 : decode cX4_shiftedRight 18 = .ok (.iload_n 2, 1) := by decide +kernel
theorem dX4_shiftedRight_19 : decode cX4_shiftedRight 19 = .ok (.bipush 60, 2) := by decide +kernel
theorem dX4_shiftedRight_21 : decode cX4_shiftedRight 21 = .ok (.invokestatic 32, 3) := by decide +kernel
theorem dX4_shiftedRight_24 : decode cX4_shiftedRight 24 = .ok (.lshr, 1) := by decide +kernel
theorem dX4_shiftedRight_25 : decode cX4_shiftedRight 25 = .ok (.ldc2_w 17, 3) := by decide +kernel
theorem dX4_shiftedRight_28 : decode cX4_shiftedRight 28 = .ok (.land, 1) := by decide +kernel
theorem dX4_shiftedRight_29 : decode cX4_shiftedRight 29 = .ok (.lreturn, 1) := by decide +kernel
theorem dX4_highestBits_0 : decode cX4_highestBits 0 = .ok (.ldc2_w 17, 3) := by decide +kernel
theorem dX4_highestBits_3 : decode cX4_highestBits 3 = .ok (.ldc2_w 17, 3) := by decide +kernel
theorem dX4_highestBits_6 : decode cX4_highestBits 6 = .ok (.iload_n 0, 1) := by decide +kernel
theorem dX4_highestBits_7 : decode cX4_highestBits 7 = .ok (.bipush 60, 2) := by decide +kernel
theorem dX4_highestBits_9 : decode cX4_highestBits 9 = .ok (.invokestatic 32, 3) := by decide +kernel
theorem dX4_highestBits_12 : decode cX4_highestBits 12 = .ok (.lshr, 1) := by decide +kernel
theorem dX4_highestBits_13 : decode cX4_highestBits 13 = .ok (.lxor, 1) := by decide +kernel
theorem dX4_highestBits_14 : decode cX4_highestBits 14 = .ok (.lreturn, 1) := by decide +kernel
theorem dX5_init_0 : decode cX5_init 0 = .ok (.aload_n 0, 1) := by decide +kernel
theorem dX5_init_1 : decode cX5_init 1 = .ok (.invokespecial 3, 3) := by decide +kernel
theorem dX5_init_4 : decode cX5_init 4 = .ok (.aload_n 0, 1) := by decide +kernel
theorem dX5_init_5 : decode cX5_init 5 = .ok (.iconst 3, 1) := by decide +kernel
theorem dX5_init_6 : decode cX5_init 6 = .ok (.newarray .int, 2) := by decide +kernel
theorem dX5_init_8 : decode cX5_init 8 = .ok (.putfield 11, 3) := by decide +kernel
theorem dX5_init_11 : decode cX5_init 11 = .ok (.return_, 1) := by decide +kernel
theorem dX5_clear_0 : decode cX5_clear 0 = .ok (.aload_n 0, 1) := by decide +kernel
theorem dX5_clear_1 : decode cX5_clear 1 = .ok (.iconst 0, 1) := by decide +kernel
theorem dX5_clear_2 : decode cX5_clear 2 = .ok (.putfield 15, 3) := by decide +kernel
theorem dX5_clear_5 : decode cX5_clear 5 = .ok (.return_, 1) := by decide +kernel
theorem dX5_add_0 : decode cX5_add 0 = .ok (.iload_n 1, 1) := by decide +kernel
theorem dX5_add_1 : decode cX5_add 1 = .ok (.bipush 16, 2) := by decide +kernel
theorem dX5_add_3 : decode cX5_add 3 = .ok (.if_icmp .eq 31, 3) := by decide +kernel
theorem dX5_add_6 : decode cX5_add 6 = .ok (.aload_n 0, 1) := by decide +kernel
theorem dX5_add_7 : decode cX5_add 7 = .ok (.getfield 15, 3) := by decide +kernel
theorem dX5_add_10 : decode cX5_add 10 = .ok (.iconst 3, 1) := by decide +kernel
theorem dX5_add_11 : decode cX5_add 11 = .ok (.if_icmp .ge 23, 3) := by decide +kernel
theorem dX5_add_14 : decode cX5_add 14 = .ok (.aload_n 0, 1) := by decide +kernel
theorem dX5_add_15 : decode cX5_add 15 = .ok (.getfield 11, 3) := by decide +kernel
theorem dX5_add_18 : decode cX5_add 18 = .ok (.aload_n 0, 1) := by decide +kernel
theorem dX5_add_19 : decode cX5_add 19 = .ok (.getfield 15, 3) := by decide +kernel
theorem dX5_add_22 : decode cX5_add 22 = .ok (.iload_n 1, 1) := by decide +kernel
theorem dX5_add_23 : decode cX5_add 23 = .ok (.iastore, 1) := by decide +kernel
theorem dX5_add_24 : decode cX5_add 24 = .ok (.aload_n 0, 1) := by decide +kernel
theorem dX5_add_25 : decode cX5_add 25 = .ok (.dup, 1) := by decide +kernel
theorem dX5_add_26 : decode cX5_add 26 = .ok (.getfield 15, 3) := by decide +kernel
theorem dX5_add_29 : decode cX5_add 29 = .ok (.iconst 1, 1) := by decide +kernel
theorem dX5_add_30 : decode cX5_add 30 = .ok (.iadd, 1) := by decide +kernel
theorem dX5_add_31 : decode cX5_add 31 = .ok (.putfield 15, 3) := by decide +kernel
theorem dX5_add_34 : decode cX5_add 34 = .ok (.return_, 1) := by decide +kernel
set_option maxRecDepth 20000 in
theorem ggX5_addX_X5_add_1 : ∀ w ∈ ([.fieldLink RX5 15 "ScoreboardCore$RegisterList" "size" "I", .fieldLink RX5 11 "ScoreboardCore$RegisterList" "numbers" "[I"] : List Cond), w ∈ wsX5_addX := List.forall_mem_cons.mpr ⟨List.mem_of_getElem? (i := 6) rfl, List.forall_mem_cons.mpr ⟨List.mem_of_getElem? (i := 7) rfl, fun _ h => nomatch h⟩⟩
set_option maxRecDepth 20000 in
theorem ggX5_addX_X5_add_2 : ∀ w ∈ wsX50, w ∈ wsX5_addX := fun w h => List.mem_cons_of_mem _ (List.mem_append_right _ (h))
theorem ggX5_addX_X5_add_m : ∀ w ∈ wsX5_add, w ∈ wsX5_addX := fun w h => (List.mem_cons.mp h).elim (fun e => by rw [e]; exact List.mem_of_getElem? (i := 5) rfl) (fun h => (List.mem_append.mp h).elim (fun h => ggX5_addX_X5_add_1 w h) (fun h => ggX5_addX_X5_add_2 w h))
set_option maxRecDepth 20000 in
theorem ggX5_addX_X5_add : GoodIn wsX5_addX wsX5_add := goodIn_sub ggX5_addX_X5_add_m (by decide +kernel)
theorem dX5_addX_0 : decode cX5_addX 0 = .ok (.aload_n 0, 1) := by decide +kernel
theorem dX5_addX_1 : decode cX5_addX 1 = .ok (.iload_n 1, 1) := by decide +kernel
theorem dX5_addX_2 : decode cX5_addX 2 = .ok (.invokevirtual 19, 3) := by decide +kernel
theorem dX5_addX_5 : decode cX5_addX 5 = .ok (.return_, 1) := by decide +kernel
set_option maxRecDepth 20000 in
theorem ggX5_addA_X5_add_1 : ∀ w ∈ ([.fieldLink RX5 15 "ScoreboardCore$RegisterList" "size" "I", .fieldLink RX5 11 "ScoreboardCore$RegisterList" "numbers" "[I"] : List Cond), w ∈ wsX5_addA := List.forall_mem_cons.mpr ⟨List.mem_of_getElem? (i := 6) rfl, List.forall_mem_cons.mpr ⟨List.mem_of_getElem? (i := 7) rfl, fun _ h => nomatch h⟩⟩
set_option maxRecDepth 20000 in
theorem ggX5_addA_X5_add_2 : ∀ w ∈ wsX50, w ∈ wsX5_addA := fun w h => List.mem_cons_of_mem _ (List.mem_append_right _ (h))
theorem ggX5_addA_X5_add_m : ∀ w ∈ wsX5_add, w ∈ wsX5_addA := fun w h => (List.mem_cons.mp h).elim (fun e => by rw [e]; exact List.mem_of_getElem? (i := 5) rfl) (fun h => (List.mem_append.mp h).elim (fun h => ggX5_addA_X5_add_1 w h) (fun h => ggX5_addA_X5_add_2 w h))
set_option maxRecDepth 20000 in
theorem ggX5_addA_X5_add : GoodIn wsX5_addA wsX5_add := goodIn_sub ggX5_addA_X5_add_m (by decide +kernel)
theorem dX5_addA_0 : decode cX5_addA 0 = .ok (.aload_n 0, 1) := by decide +kernel
theorem dX5_addA_1 : decode cX5_addA 1 = .ok (.bipush 8, 2) := by decide +kernel
theorem dX5_addA_3 : decode cX5_addA 3 = .ok (.iload_n 1, 1) := by decide +kernel
theorem dX5_addA_4 : decode cX5_addA 4 = .ok (.iadd, 1) := by decide +kernel
theorem dX5_addA_5 : decode cX5_addA 5 = .ok (.invokevirtual 19, 3) := by decide +kernel
theorem dX5_addA_8 : decode cX5_addA 8 = .ok (.return_, 1) := by decide +kernel
set_option maxRecDepth 20000 in
theorem ggX5_addB_X5_add_1 : ∀ w ∈ ([.fieldLink RX5 15 "ScoreboardCore$RegisterList" "size" "I", .fieldLink RX5 11 "ScoreboardCore$RegisterList" "numbers" "[I"] : List Cond), w ∈ wsX5_addB := List.forall_mem_cons.mpr ⟨List.mem_of_getElem? (i := 6) rfl, List.forall_mem_cons.mpr ⟨List.mem_of_getElem? (i := 7) rfl, fun _ h => nomatch h⟩⟩
set_option maxRecDepth 20000 in
theorem ggX5_addB_X5_add_2 : ∀ w ∈ wsX50, w ∈ wsX5_addB := fun w h => List.mem_cons_of_mem _ (List.mem_append_right _ (h))
theorem ggX5_addB_X5_add_m : ∀ w ∈ wsX5_add, w ∈ wsX5_addB := fun w h => (List.mem_cons.mp h).elim (fun e => by rw [e]; exact List.mem_of_getElem? (i := 5) rfl) (fun h => (List.mem_append.mp h).elim (fun h => ggX5_addB_X5_add_1 w h) (fun h => ggX5_addB_X5_add_2 w h))
set_option maxRecDepth 20000 in
theorem ggX5_addB_X5_add : GoodIn wsX5_addB wsX5_add := goodIn_sub ggX5_addB_X5_add_m (by decide +kernel)
theorem dX5_addB_0 : decode cX5_addB 0 = .ok (.aload_n 0, 1) := by decide +kernel
theorem dX5_addB_1 : decode cX5_addB 1 = .ok (.bipush 16, 2) := by decide +kernel
theorem dX5_addB_3 : decode cX5_addB 3 = .ok (.iload_n 1, 1) := by decide +kernel
theorem dX5_addB_4 : decode cX5_addB 4 = .ok (.iadd, 1) := by decide +kernel
theorem dX5_addB_5 : decode cX5_addB 5 = .ok (.invokevirtual 19, 3) := by decide +kernel
theorem dX5_addB_8 : decode cX5_addB 8 = .ok (.return_, 1) := by decide +kernel
theorem dX5_latestIn_0 : decode cX5_latestIn 0 = .ok (.iconst 0, 1) := by decide +kernel
theorem dX5_latestIn_1 : decode cX5_latestIn 1 = .ok (.istore_n 2, 1) := by decide +kernel
theorem dX5_latestIn_2 : decode cX5_latestIn 2 = .ok (.iconst 0, 1) := by decide +kernel
theorem dX5_latestIn_3 : decode cX5_latestIn 3 = .ok (.istore_n 3, 1) := by decide +kernel
theorem dX5_latestIn_4 : decode cX5_latestIn 4 = .ok (.iload_n 3, 1) := by decide +kernel
theorem dX5_latestIn_5 : decode cX5_latestIn 5 = .ok (.aload_n 0, 1) := by decide +kernel
theorem dX5_latestIn_6 : decode cX5_latestIn 6 = .ok (.getfield 15, 3) := by decide +kernel
theorem dX5_latestIn_9 : decode cX5_latestIn 9 = .ok (.if_icmp .ge 22, 3) := by decide +kernel
theorem dX5_latestIn_12 : decode cX5_latestIn 12 = .ok (.iload_n 2, 1) := by decide +kernel
theorem dX5_latestIn_13 : decode cX5_latestIn 13 = .ok (.aload_n 1, 1) := by decide +kernel
theorem dX5_latestIn_14 : decode cX5_latestIn 14 = .ok (.aload_n 0, 1) := by decide +kernel
theorem dX5_latestIn_15 : decode cX5_latestIn 15 = .ok (.getfield 11, 3) := by decide +kernel
theorem dX5_latestIn_18 : decode cX5_latestIn 18 = .ok (.iload_n 3, 1) := by decide +kernel
theorem dX5_latestIn_19 : decode cX5_latestIn 19 = .ok (.iaload, 1) := by decide +kernel
theorem dX5_latestIn_20 : decode cX5_latestIn 20 = .ok (.iaload, 1) := by decide +kernel
theorem dX5_latestIn_21 : decode cX5_latestIn 21 = .ok (.invokestatic 23, 3) := by decide +kernel
theorem dX5_latestIn_24 : decode cX5_latestIn 24 = .ok (.istore_n 2, 1) := by decide +kernel
theorem dX5_latestIn_25 : decode cX5_latestIn 25 = .ok (.iinc 3 1, 3) := by decide +kernel
theorem dX5_latestIn_28 : decode cX5_latestIn 28 = .ok (.goto (-24), 3) := by decide +kernel
theorem dX5_latestIn_31 : decode cX5_latestIn 31 = .ok (.iload_n 2, 1) := by decide +kernel
theorem dX5_latestIn_32 : decode cX5_latestIn 32 = .ok (.ireturn, 1) := by decide +kernel
theorem dX5_raiseIn_0 : decode cX5_raiseIn 0 = .ok (.iconst 0, 1) := by decide +kernel
theorem dX5_raiseIn_1 : decode cX5_raiseIn 1 = .ok (.istore_n 3, 1) := by decide +kernel
theorem dX5_raiseIn_2 : decode cX5_raiseIn 2 = .ok (.iload_n 3, 1) := by decide +kernel
theorem dX5_raiseIn_3 : decode cX5_raiseIn 3 = .ok (.aload_n 0, 1) := by decide +kernel
theorem dX5_raiseIn_4 : decode cX5_raiseIn 4 = .ok (.getfield 15, 3) := by decide +kernel
theorem dX5_raiseIn_7 : decode cX5_raiseIn 7 = .ok (.if_icmp .ge 29, 3) := by decide +kernel
theorem dX5_raiseIn_10 : decode cX5_raiseIn 10 = .ok (.aload_n 0, 1) := by decide +kernel
theorem dX5_raiseIn_11 : decode cX5_raiseIn 11 = .ok (.getfield 11, 3) := by decide +kernel
theorem dX5_raiseIn_14 : decode cX5_raiseIn 14 = .ok (.iload_n 3, 1) := by decide +kernel
theorem dX5_raiseIn_15 : decode cX5_raiseIn 15 = .ok (.iaload, 1) := by decide +kernel
theorem dX5_raiseIn_16 : decode cX5_raiseIn 16 = .ok (.istore 4, 2) := by decide +kernel
theorem dX5_raiseIn_18 : decode cX5_raiseIn 18 = .ok (.aload_n 1, 1) := by decide +kernel
theorem dX5_raiseIn_19 : decode cX5_raiseIn 19 = .ok (.iload 4, 2) := by decide +kernel
theorem dX5_raiseIn_21 : decode cX5_raiseIn 21 = .ok (.aload_n 1, 1) := by decide +kernel
theorem dX5_raiseIn_22 : decode cX5_raiseIn 22 = .ok (.iload 4, 2) := by decide +kernel
theorem dX5_raiseIn_24 : decode cX5_raiseIn 24 = .ok (.iaload, 1) := by decide +kernel
theorem dX5_raiseIn_25 : decode cX5_raiseIn 25 = .ok (.iload_n 2, 1) := by decide +kernel
theorem dX5_raiseIn_26 : decode cX5_raiseIn 26 = .ok (.invokestatic 23, 3) := by decide +kernel
theorem dX5_raiseIn_29 : decode cX5_raiseIn 29 = .ok (.iastore, 1) := by decide +kernel
theorem dX5_raiseIn_30 : decode cX5_raiseIn 30 = .ok (.iinc 3 1, 3) := by decide +kernel
theorem dX5_raiseIn_33 : decode cX5_raiseIn 33 = .ok (.goto (-31), 3) := by decide +kernel
theorem dX5_raiseIn_36 : decode cX5_raiseIn 36 = .ok (.return_, 1) := by decide +kernel
theorem dX6_init_0 : decode cX6_init 0 = .ok (.aload_n 0, 1) := by decide +kernel
theorem dX6_init_1 : decode cX6_init 1 = .ok (.invokespecial 3, 3) := by decide +kernel
theorem dX6_init_4 : decode cX6_init 4 = .ok (.aload_n 0, 1) := by decide +kernel
theorem dX6_init_5 : decode cX6_init 5 = .ok (.bipush 24, 2) := by decide +kernel
theorem dX6_init_7 : decode cX6_init 7 = .ok (.newarray .long, 2) := by decide +kernel
theorem dX6_init_9 : decode cX6_init 9 = .ok (.putfield 9, 3) := by decide +kernel
theorem dX6_init_12 : decode cX6_init 12 = .ok (.return_, 1) := by decide +kernel
theorem dX6_get_0 : decode cX6_get 0 = .ok (.aload_n 0, 1) := by decide +kernel
theorem dX6_get_1 : decode cX6_get 1 = .ok (.getfield 9, 3) := by decide +kernel
theorem dX6_get_4 : decode cX6_get 4 = .ok (.iload_n 1, 1) := by decide +kernel
theorem dX6_get_5 : decode cX6_get 5 = .ok (.laload, 1) := by decide +kernel
theorem dX6_get_6 : decode cX6_get 6 = .ok (.lreturn, 1) := by decide +kernel
theorem dX6_set_0 : decode cX6_set 0 = .ok (.iload_n 1, 1) := by decide +kernel
theorem dX6_set_1 : decode cX6_set 1 = .ok (.bipush 16, 2) := by decide +kernel
theorem dX6_set_3 : decode cX6_set 3 = .ok (.if_icmp .eq 26, 3) := by decide +kernel
theorem dX6_set_6 : decode cX6_set 6 = .ok (.aload_n 0, 1) := by decide +kernel
theorem dX6_set_7 : decode cX6_set 7 = .ok (.getfield 9, 3) := by decide +kernel
theorem dX6_set_10 : decode cX6_set 10 = .ok (.iload_n 1, 1) := by decide +kernel
theorem dX6_set_11 : decode cX6_set 11 = .ok (.lload_n 2, 1) := by decide +kernel
theorem dX6_set_12 : decode cX6_set 12 = .ok (.iload_n 1, 1) := by decide +kernel
theorem dX6_set_13 : decode cX6_set 13 = .ok (.bipush 8, 2) := by decide +kernel
theorem dX6_set_15 : decode cX6_set 15 = .ok (.if_icmp .ge 9, 3) := by decide +kernel
theorem dX6_set_18 : decode cX6_set 18 = .ok (.ldc2_w 15, 3) := by decide +kernel
theorem dX6_set_21 : decode cX6_set 21 = .ok (.goto 6, 3) := by decide +kernel
theorem dX6_set_24 : decode cX6_set 24 = .ok (.ldc2_w 17, 3) := by decide +kernel
theorem dX6_set_27 : decode cX6_set 27 = .ok (.land, 1) := by decide +kernel
theorem dX6_set_28 : decode cX6_set 28 = .ok (.lastore, 1) := by decide +kernel
theorem dX6_set_29 : decode cX6_set 29 = .ok (.return_, 1) := by decide +kernel
theorem dX6_x_0 : decode cX6_x 0 = .ok (.aload_n 0, 1) := by decide +kernel
theorem dX6_x_1 : decode cX6_x 1 = .ok (.getfield 9, 3) := by decide +kernel
theorem dX6_x_4 : decode cX6_x 4 = .ok (.iload_n 1, 1) := by decide +kernel
theorem dX6_x_5 : decode cX6_x 5 = .ok (.laload, 1) := by decide +kernel
theorem dX6_x_6 : decode cX6_x 6 = .ok (.lreturn, 1) := by decide +kernel
theorem dX6_a_0 : decode cX6_a 0 = .ok (.aload_n 0, 1) := by decide +kernel
theorem dX6_a_1 : decode cX6_a 1 = .ok (.getfield 9, 3) := by decide +kernel
theorem dX6_a_4 : decode cX6_a 4 = .ok (.bipush 8, 2) := by decide +kernel
theorem dX6_a_6 : decode cX6_a 6 = .ok (.iload_n 1, 1) := by decide +kernel
theorem dX6_a_7 : decode cX6_a 7 = .ok (.iadd, 1) := by decide +kernel
theorem dX6_a_8 : decode cX6_a 8 = .ok (.laload, 1) := by decide +kernel
theorem dX6_a_9 : decode cX6_a 9 = .ok (.lreturn, 1) := by decide +kernel
theorem dX6_b_0 : decode cX6_b 0 = .ok (.aload_n 0, 1) := by decide +kernel
theorem dX6_b_1 : decode cX6_b 1 = .ok (.getfield 9, 3) := by decide +kernel
theorem dX6_b_4 : decode cX6_b 4 = .ok (.bipush 16, 2) := by decide +kernel
theorem dX6_b_6 : decode cX6_b 6 = .ok (.iload_n 1, 1) := by decide +kernel
theorem dX6_b_7 : decode cX6_b 7 = .ok (.iadd, 1) := by decide +kernel
theorem dX6_b_8 : decode cX6_b 8 = .ok (.laload, 1) := by decide +kernel
theorem dX6_b_9 : decode cX6_b 9 = .ok (.lreturn, 1) := by decide +kernel
set_option maxRecDepth 20000 in
theorem ggX7_apply_X1_unit_1 : ∀ w ∈ ([.fieldLink RX1 45 "ScoreboardCore$Instruction" "unit" "I"] : List Cond), w ∈ wsX7_apply := List.forall_mem_cons.mpr ⟨List.mem_of_getElem? (i := 6) rfl, fun _ h => nomatch h⟩
set_option maxRecDepth 20000 in
theorem ggX7_apply_X1_unit_2 : ∀ w ∈ wsX10, w ∈ wsX7_apply := fun w h => List.mem_cons_of_mem _ (List.mem_append_left _ (List.mem_append_left _ (List.mem_append_right _ (h))))
theorem ggX7_apply_X1_unit_m : ∀ w ∈ wsX1_unit, w ∈ wsX7_apply := fun w h => (List.mem_cons.mp h).elim (fun e => by rw [e]; exact List.mem_of_getElem? (i := 5) rfl) (fun h => (List.mem_append.mp h).elim (fun h => ggX7_apply_X1_unit_1 w h) (fun h => ggX7_apply_X1_unit_2 w h))
set_option maxRecDepth 20000 in
theorem ggX7_apply_X1_unit : GoodIn wsX7_apply wsX1_unit := goodIn_sub ggX7_apply_X1_unit_m (by decide +kernel)
set_option maxRecDepth 20000 in
theorem ggX7_apply_X1_i_1 : ∀ w ∈ ([.fieldLink RX1 28 "ScoreboardCore$Instruction" "i" "I"] : List Cond), w ∈ wsX7_apply := List.forall_mem_cons.mpr ⟨List.mem_of_getElem? (i := 11) rfl, fun _ h => nomatch h⟩
set_option maxRecDepth 20000 in
theorem ggX7_apply_X1_i_2 : ∀ w ∈ wsX10, w ∈ wsX7_apply := fun w h => List.mem_cons_of_mem _ (List.mem_append_left _ (List.mem_append_left _ (List.mem_append_right _ (h))))
theorem ggX7_apply_X1_i_m : ∀ w ∈ wsX1_i, w ∈ wsX7_apply := fun w h => (List.mem_cons.mp h).elim (fun e => by rw [e]; exact List.mem_of_getElem? (i := 10) rfl) (fun h => (List.mem_append.mp h).elim (fun h => ggX7_apply_X1_i_1 w h) (fun h => ggX7_apply_X1_i_2 w h))
set_option maxRecDepth 20000 in
theorem ggX7_apply_X1_i : GoodIn wsX7_apply wsX1_i := goodIn_sub ggX7_apply_X1_i_m (by decide +kernel)
set_option maxRecDepth 20000 in
theorem ggX7_apply_X1_op_1 : ∀ w ∈ ([.fieldLink RX1 25 "ScoreboardCore$Instruction" "op" "I"] : List Cond), w ∈ wsX7_apply := List.forall_mem_cons.mpr ⟨List.mem_of_getElem? (i := 16) rfl, fun _ h => nomatch h⟩
set_option maxRecDepth 20000 in
theorem ggX7_apply_X1_op_2 : ∀ w ∈ wsX10, w ∈ wsX7_apply := fun w h => List.mem_cons_of_mem _ (List.mem_append_left _ (List.mem_append_left _ (List.mem_append_right _ (h))))
theorem ggX7_apply_X1_op_m : ∀ w ∈ wsX1_op, w ∈ wsX7_apply := fun w h => (List.mem_cons.mp h).elim (fun e => by rw [e]; exact List.mem_of_getElem? (i := 15) rfl) (fun h => (List.mem_append.mp h).elim (fun h => ggX7_apply_X1_op_1 w h) (fun h => ggX7_apply_X1_op_2 w h))
set_option maxRecDepth 20000 in
theorem ggX7_apply_X1_op : GoodIn wsX7_apply wsX1_op := goodIn_sub ggX7_apply_X1_op_m (by decide +kernel)
set_option maxRecDepth 20000 in
theorem ggX7_apply_X1_j_1 : ∀ w ∈ ([.fieldLink RX1 31 "ScoreboardCore$Instruction" "j" "I"] : List Cond), w ∈ wsX7_apply := List.forall_mem_cons.mpr ⟨List.mem_of_getElem? (i := 21) rfl, fun _ h => nomatch h⟩
set_option maxRecDepth 20000 in
theorem ggX7_apply_X1_j_2 : ∀ w ∈ wsX10, w ∈ wsX7_apply := fun w h => List.mem_cons_of_mem _ (List.mem_append_left _ (List.mem_append_left _ (List.mem_append_right _ (h))))
theorem ggX7_apply_X1_j_m : ∀ w ∈ wsX1_j, w ∈ wsX7_apply := fun w h => (List.mem_cons.mp h).elim (fun e => by rw [e]; exact List.mem_of_getElem? (i := 20) rfl) (fun h => (List.mem_append.mp h).elim (fun h => ggX7_apply_X1_j_1 w h) (fun h => ggX7_apply_X1_j_2 w h))
set_option maxRecDepth 20000 in
theorem ggX7_apply_X1_j : GoodIn wsX7_apply wsX1_j := goodIn_sub ggX7_apply_X1_j_m (by decide +kernel)
set_option maxRecDepth 20000 in
theorem ggX7_apply_X6_x_1 : ∀ w ∈ ([.fieldLink RX6 9 "ScoreboardCore$Registers" "values" "[J"] : List Cond), w ∈ wsX7_apply := List.forall_mem_cons.mpr ⟨List.mem_of_getElem? (i := 27) rfl, fun _ h => nomatch h⟩
set_option maxRecDepth 20000 in
theorem ggX7_apply_X6_x_2 : ∀ w ∈ wsX60, w ∈ wsX7_apply := fun w h => List.mem_cons_of_mem _ (List.mem_append_left _ (List.mem_append_right _ (h)))
theorem ggX7_apply_X6_x_m : ∀ w ∈ wsX6_x, w ∈ wsX7_apply := fun w h => (List.mem_cons.mp h).elim (fun e => by rw [e]; exact List.mem_of_getElem? (i := 26) rfl) (fun h => (List.mem_append.mp h).elim (fun h => ggX7_apply_X6_x_1 w h) (fun h => ggX7_apply_X6_x_2 w h))
set_option maxRecDepth 20000 in
theorem ggX7_apply_X6_x : GoodIn wsX7_apply wsX6_x := goodIn_sub ggX7_apply_X6_x_m (by decide +kernel)
set_option maxRecDepth 20000 in
theorem ggX7_apply_X1_k_1 : ∀ w ∈ ([.fieldLink RX1 34 "ScoreboardCore$Instruction" "k" "I"] : List Cond), w ∈ wsX7_apply := List.forall_mem_cons.mpr ⟨List.mem_of_getElem? (i := 32) rfl, fun _ h => nomatch h⟩
set_option maxRecDepth 20000 in
theorem ggX7_apply_X1_k_2 : ∀ w ∈ wsX10, w ∈ wsX7_apply := fun w h => List.mem_cons_of_mem _ (List.mem_append_left _ (List.mem_append_left _ (List.mem_append_right _ (h))))
theorem ggX7_apply_X1_k_m : ∀ w ∈ wsX1_k, w ∈ wsX7_apply := fun w h => (List.mem_cons.mp h).elim (fun e => by rw [e]; exact List.mem_of_getElem? (i := 31) rfl) (fun h => (List.mem_append.mp h).elim (fun h => ggX7_apply_X1_k_1 w h) (fun h => ggX7_apply_X1_k_2 w h))
set_option maxRecDepth 20000 in
theorem ggX7_apply_X1_k : GoodIn wsX7_apply wsX1_k := goodIn_sub ggX7_apply_X1_k_m (by decide +kernel)
set_option maxRecDepth 20000 in
theorem ggX7_apply_X7_logic_1 : ∀ w ∈ ([.constantLong RX7 60 (-1)] : List Cond), w ∈ wsX7_apply := List.forall_mem_cons.mpr ⟨List.mem_of_getElem? (i := 37) rfl, fun _ h => nomatch h⟩
theorem ggX7_apply_X7_logic_m : ∀ w ∈ wsX7_logic, w ∈ wsX7_apply := fun w h => (List.mem_cons.mp h).elim (fun e => by rw [e]; exact List.mem_of_getElem? (i := 36) rfl) (fun h => ggX7_apply_X7_logic_1 w h)
set_option maxRecDepth 20000 in
theorem ggX7_apply_X7_logic : GoodIn wsX7_apply wsX7_logic := goodIn_sub ggX7_apply_X7_logic_m (by decide +kernel)
set_option maxRecDepth 20000 in
theorem ggX7_apply_X6_set_1 : ∀ w ∈ ([.fieldLink RX6 9 "ScoreboardCore$Registers" "values" "[J", .constantLong RX6 15 (1152921504606846975), .constantLong RX6 17 (262143)] : List Cond), w ∈ wsX7_apply := List.forall_mem_cons.mpr ⟨List.mem_of_getElem? (i := 27) rfl, List.forall_mem_cons.mpr ⟨List.mem_of_getElem? (i := 42) rfl, List.forall_mem_cons.mpr ⟨List.mem_of_getElem? (i := 43) rfl, fun _ h => nomatch h⟩⟩⟩
set_option maxRecDepth 20000 in
theorem ggX7_apply_X6_set_2 : ∀ w ∈ wsX60, w ∈ wsX7_apply := fun w h => List.mem_cons_of_mem _ (List.mem_append_left _ (List.mem_append_right _ (h)))
theorem ggX7_apply_X6_set_m : ∀ w ∈ wsX6_set, w ∈ wsX7_apply := fun w h => (List.mem_cons.mp h).elim (fun e => by rw [e]; exact List.mem_of_getElem? (i := 41) rfl) (fun h => (List.mem_append.mp h).elim (fun h => ggX7_apply_X6_set_1 w h) (fun h => ggX7_apply_X6_set_2 w h))
set_option maxRecDepth 20000 in
theorem ggX7_apply_X6_set : GoodIn wsX7_apply wsX6_set := goodIn_sub ggX7_apply_X6_set_m (by decide +kernel)
set_option maxRecDepth 20000 in
theorem ggX7_apply_X7_shift_1 : ∀ w ∈ (wsX7_shift_r1 : List Cond), w ∈ wsX7_apply := List.forall_mem_cons.mpr ⟨List.mem_of_getElem? (i := 12) rfl, List.forall_mem_cons.mpr ⟨List.mem_of_getElem? (i := 13) rfl, List.forall_mem_cons.mpr ⟨List.mem_of_getElem? (i := 14) rfl, List.forall_mem_cons.mpr ⟨List.mem_of_getElem? (i := 4) rfl, List.forall_mem_cons.mpr ⟨List.mem_of_getElem? (i := 15) rfl, List.forall_mem_cons.mpr ⟨List.mem_of_getElem? (i := 16) rfl, List.forall_mem_cons.mpr ⟨List.mem_of_getElem? (i := 7) rfl, List.forall_mem_cons.mpr ⟨List.mem_of_getElem? (i := 8) rfl, List.forall_mem_cons.mpr ⟨List.mem_of_getElem? (i := 9) rfl, List.forall_mem_cons.mpr ⟨List.mem_of_getElem? (i := 10) rfl, List.forall_mem_cons.mpr ⟨List.mem_of_getElem? (i := 11) rfl, List.forall_mem_cons.mpr ⟨List.mem_of_getElem? (i := 22) rfl, List.forall_mem_cons.mpr ⟨List.mem_of_getElem? (i := 23) rfl, List.forall_mem_cons.mpr ⟨List.mem_of_getElem? (i := 24) rfl, List.forall_mem_cons.mpr ⟨List.mem_of_getElem? (i := 25) rfl, List.forall_mem_cons.mpr ⟨List.mem_of_getElem? (i := 26) rfl, List.forall_mem_cons.mpr ⟨List.mem_of_getElem? (i := 27) rfl, List.forall_mem_cons.mpr ⟨List.mem_of_getElem? (i := 47) rfl, List.forall_mem_cons.mpr ⟨List.mem_of_getElem? (i := 48) rfl, List.forall_mem_cons.mpr ⟨List.mem_of_getElem? (i := 49) rfl, List.forall_mem_cons.mpr ⟨List.mem_of_getElem? (i := 50) rfl, List.forall_mem_cons.mpr ⟨List.mem_of_getElem? (i := 21) rfl, List.forall_mem_cons.mpr ⟨List.mem_of_getElem? (i := 32) rfl, List.forall_mem_cons.mpr ⟨List.mem_of_getElem? (i := 51) rfl, fun _ h => nomatch h⟩⟩⟩⟩⟩⟩⟩⟩⟩⟩⟩⟩⟩⟩⟩⟩⟩⟩⟩⟩⟩⟩⟩⟩
set_option maxRecDepth 20000 in
theorem ggX7_apply_X7_shift_2 : ∀ w ∈ (wsX7_shift_r2 : List Cond), w ∈ wsX7_apply := List.forall_mem_cons.mpr ⟨List.mem_of_getElem? (i := 52) rfl, List.forall_mem_cons.mpr ⟨List.mem_of_getElem? (i := 53) rfl, List.forall_mem_cons.mpr ⟨List.mem_of_getElem? (i := 54) rfl, List.forall_mem_cons.mpr ⟨List.mem_of_getElem? (i := 55) rfl, List.forall_mem_cons.mpr ⟨List.mem_of_getElem? (i := 56) rfl, List.forall_mem_cons.mpr ⟨List.mem_of_getElem? (i := 57) rfl, List.forall_mem_cons.mpr ⟨List.mem_of_getElem? (i := 58) rfl, List.forall_mem_cons.mpr ⟨List.mem_of_getElem? (i := 59) rfl, List.forall_mem_cons.mpr ⟨List.mem_of_getElem? (i := 60) rfl, List.forall_mem_cons.mpr ⟨List.mem_of_getElem? (i := 61) rfl, List.forall_mem_cons.mpr ⟨List.mem_of_getElem? (i := 62) rfl, List.forall_mem_cons.mpr ⟨List.mem_of_getElem? (i := 63) rfl, List.forall_mem_cons.mpr ⟨List.mem_of_getElem? (i := 64) rfl, List.forall_mem_cons.mpr ⟨List.mem_of_getElem? (i := 65) rfl, List.forall_mem_cons.mpr ⟨List.mem_of_getElem? (i := 66) rfl, List.forall_mem_cons.mpr ⟨List.mem_of_getElem? (i := 28) rfl, List.forall_mem_cons.mpr ⟨List.mem_of_getElem? (i := 29) rfl, List.forall_mem_cons.mpr ⟨List.mem_of_getElem? (i := 30) rfl, List.forall_mem_cons.mpr ⟨List.mem_of_getElem? (i := 31) rfl, List.forall_mem_cons.mpr ⟨List.mem_of_getElem? (i := 17) rfl, List.forall_mem_cons.mpr ⟨List.mem_of_getElem? (i := 18) rfl, List.forall_mem_cons.mpr ⟨List.mem_of_getElem? (i := 19) rfl, List.forall_mem_cons.mpr ⟨List.mem_of_getElem? (i := 20) rfl, List.forall_mem_cons.mpr ⟨List.mem_of_getElem? (i := 67) rfl, fun _ h => nomatch h⟩⟩⟩⟩⟩⟩⟩⟩⟩⟩⟩⟩⟩⟩⟩⟩⟩⟩⟩⟩⟩⟩⟩⟩
set_option maxRecDepth 20000 in
theorem ggX7_apply_X7_shift_3 : ∀ w ∈ (wsX7_shift_r3 : List Cond), w ∈ wsX7_apply := List.forall_mem_cons.mpr ⟨List.mem_of_getElem? (i := 68) rfl, List.forall_mem_cons.mpr ⟨List.mem_of_getElem? (i := 69) rfl, List.forall_mem_cons.mpr ⟨List.mem_of_getElem? (i := 70) rfl, List.forall_mem_cons.mpr ⟨List.mem_of_getElem? (i := 71) rfl, List.forall_mem_cons.mpr ⟨List.mem_of_getElem? (i := 72) rfl, List.forall_mem_cons.mpr ⟨List.mem_of_getElem? (i := 35) rfl, List.forall_mem_cons.mpr ⟨List.mem_of_getElem? (i := 73) rfl, List.forall_mem_cons.mpr ⟨List.mem_of_getElem? (i := 37) rfl, List.forall_mem_cons.mpr ⟨List.mem_of_getElem? (i := 74) rfl, List.forall_mem_cons.mpr ⟨List.mem_of_getElem? (i := 75) rfl, List.forall_mem_cons.mpr ⟨List.mem_of_getElem? (i := 76) rfl, List.forall_mem_cons.mpr ⟨List.mem_of_getElem? (i := 77) rfl, List.forall_mem_cons.mpr ⟨List.mem_of_getElem? (i := 78) rfl, List.forall_mem_cons.mpr ⟨List.mem_of_getElem? (i := 79) rfl, List.forall_mem_cons.mpr ⟨List.mem_of_getElem? (i := 80) rfl, fun _ h => nomatch h⟩⟩⟩⟩⟩⟩⟩⟩⟩⟩⟩⟩⟩⟩⟩
set_option maxRecDepth 20000 in
theorem ggX7_apply_X7_shift_4 : ∀ w ∈ wsX10, w ∈ wsX7_apply := fun w h => List.mem_cons_of_mem _ (List.mem_append_left _ (List.mem_append_left _ (List.mem_append_right _ (h))))
set_option maxRecDepth 20000 in
theorem ggX7_apply_X7_shift_5 : ∀ w ∈ wsX60, w ∈ wsX7_apply := fun w h => List.mem_cons_of_mem _ (List.mem_append_left _ (List.mem_append_right _ (h)))
theorem ggX7_apply_X7_shift_m : ∀ w ∈ wsX7_shift, w ∈ wsX7_apply := fun w h => (List.mem_cons.mp h).elim (fun e => by rw [e]; exact List.mem_of_getElem? (i := 46) rfl) (fun h => (List.mem_append.mp h).elim (fun h => (List.mem_append.mp h).elim (fun h => (List.mem_append.mp h).elim (fun h => ggX7_apply_X7_shift_1 w h) (fun h => (List.mem_append.mp h).elim (fun h => ggX7_apply_X7_shift_2 w h) (fun h => ggX7_apply_X7_shift_3 w h))) (fun h => ggX7_apply_X7_shift_4 w h)) (fun h => ggX7_apply_X7_shift_5 w h))
set_option maxRecDepth 20000 in
theorem ggX7_apply_X7_shift : GoodIn wsX7_apply wsX7_shift := goodIn_sub ggX7_apply_X7_shift_m (by decide +kernel)
set_option maxRecDepth 20000 in
theorem ggX7_apply_X7_wordSum_1 : ∀ w ∈ ([.constantLong RX7 88 (1152921504606846975), .methodLink RX7 90 yX4_sum, .static yX4_sum, .initialized RX4, .code yX4_sum cX4_sum 9 (some .long), .methodLink RX7 94 yX4_difference, .static yX4_difference, .code yX4_difference cX4_difference 6 (some .long), .methodLink RX4 9 yX4_sum] : List Cond), w ∈ wsX7_apply := List.forall_mem_cons.mpr ⟨List.mem_of_getElem? (i := 84) rfl, List.forall_mem_cons.mpr ⟨List.mem_of_getElem? (i := 85) rfl, List.forall_mem_cons.mpr ⟨List.mem_of_getElem? (i := 86) rfl, List.forall_mem_cons.mpr ⟨List.mem_of_getElem? (i := 53) rfl, List.forall_mem_cons.mpr ⟨List.mem_of_getElem? (i := 87) rfl, List.forall_mem_cons.mpr ⟨List.mem_of_getElem? (i := 88) rfl, List.forall_mem_cons.mpr ⟨List.mem_of_getElem? (i := 89) rfl, List.forall_mem_cons.mpr ⟨List.mem_of_getElem? (i := 90) rfl, List.forall_mem_cons.mpr ⟨List.mem_of_getElem? (i := 91) rfl, fun _ h => nomatch h⟩⟩⟩⟩⟩⟩⟩⟩⟩
theorem ggX7_apply_X7_wordSum_m : ∀ w ∈ wsX7_wordSum, w ∈ wsX7_apply := fun w h => (List.mem_cons.mp h).elim (fun e => by rw [e]; exact List.mem_of_getElem? (i := 83) rfl) (fun h => ggX7_apply_X7_wordSum_1 w h)
set_option maxRecDepth 20000 in
theorem ggX7_apply_X7_wordSum : GoodIn wsX7_apply wsX7_wordSum := goodIn_sub ggX7_apply_X7_wordSum_m (by decide +kernel)
set_option maxRecDepth 20000 in
theorem ggX7_apply_J13_bitCount_95d88_1 : ∀ w ∈ ([.constantLong RJ13 314 (6148914691236517205), .constantLong RJ13 316 (3689348814741910323), .constantLong RJ13 318 (1085102592571150095)] : List Cond), w ∈ wsX7_apply := List.forall_mem_cons.mpr ⟨List.mem_of_getElem? (i := 96) rfl, List.forall_mem_cons.mpr ⟨List.mem_of_getElem? (i := 97) rfl, List.forall_mem_cons.mpr ⟨List.mem_of_getElem? (i := 98) rfl, fun _ h => nomatch h⟩⟩⟩
theorem ggX7_apply_J13_bitCount_95d88_m : ∀ w ∈ wsJ13_bitCount_95d88, w ∈ wsX7_apply := fun w h => (List.mem_cons.mp h).elim (fun e => by rw [e]; exact List.mem_of_getElem? (i := 95) rfl) (fun h => ggX7_apply_J13_bitCount_95d88_1 w h)
set_option maxRecDepth 20000 in
theorem ggX7_apply_J13_bitCount_95d88 : GoodIn wsX7_apply wsJ13_bitCount_95d88 := goodIn_sub ggX7_apply_J13_bitCount_95d88_m (by decide +kernel)
set_option maxRecDepth 20000 in
theorem ggX7_apply_X7_applyAddress_1 : ∀ w ∈ (wsX7_applyAddress_r1 : List Cond), w ∈ wsX7_apply := List.forall_mem_cons.mpr ⟨List.mem_of_getElem? (i := 102) rfl, List.forall_mem_cons.mpr ⟨List.mem_of_getElem? (i := 103) rfl, List.forall_mem_cons.mpr ⟨List.mem_of_getElem? (i := 35) rfl, List.forall_mem_cons.mpr ⟨List.mem_of_getElem? (i := 104) rfl, List.forall_mem_cons.mpr ⟨List.mem_of_getElem? (i := 105) rfl, List.forall_mem_cons.mpr ⟨List.mem_of_getElem? (i := 17) rfl, List.forall_mem_cons.mpr ⟨List.mem_of_getElem? (i := 18) rfl, List.forall_mem_cons.mpr ⟨List.mem_of_getElem? (i := 19) rfl, List.forall_mem_cons.mpr ⟨List.mem_of_getElem? (i := 4) rfl, List.forall_mem_cons.mpr ⟨List.mem_of_getElem? (i := 20) rfl, List.forall_mem_cons.mpr ⟨List.mem_of_getElem? (i := 21) rfl, List.forall_mem_cons.mpr ⟨List.mem_of_getElem? (i := 106) rfl, List.forall_mem_cons.mpr ⟨List.mem_of_getElem? (i := 107) rfl, List.forall_mem_cons.mpr ⟨List.mem_of_getElem? (i := 108) rfl, List.forall_mem_cons.mpr ⟨List.mem_of_getElem? (i := 25) rfl, List.forall_mem_cons.mpr ⟨List.mem_of_getElem? (i := 109) rfl, List.forall_mem_cons.mpr ⟨List.mem_of_getElem? (i := 27) rfl, List.forall_mem_cons.mpr ⟨List.mem_of_getElem? (i := 67) rfl, List.forall_mem_cons.mpr ⟨List.mem_of_getElem? (i := 68) rfl, List.forall_mem_cons.mpr ⟨List.mem_of_getElem? (i := 69) rfl, List.forall_mem_cons.mpr ⟨List.mem_of_getElem? (i := 70) rfl, List.forall_mem_cons.mpr ⟨List.mem_of_getElem? (i := 22) rfl, List.forall_mem_cons.mpr ⟨List.mem_of_getElem? (i := 23) rfl, List.forall_mem_cons.mpr ⟨List.mem_of_getElem? (i := 24) rfl, fun _ h => nomatch h⟩⟩⟩⟩⟩⟩⟩⟩⟩⟩⟩⟩⟩⟩⟩⟩⟩⟩⟩⟩⟩⟩⟩⟩
set_option maxRecDepth 20000 in
theorem ggX7_apply_X7_applyAddress_2 : ∀ w ∈ (wsX7_applyAddress_r2 : List Cond), w ∈ wsX7_apply := List.forall_mem_cons.mpr ⟨List.mem_of_getElem? (i := 26) rfl, List.forall_mem_cons.mpr ⟨List.mem_of_getElem? (i := 28) rfl, List.forall_mem_cons.mpr ⟨List.mem_of_getElem? (i := 29) rfl, List.forall_mem_cons.mpr ⟨List.mem_of_getElem? (i := 30) rfl, List.forall_mem_cons.mpr ⟨List.mem_of_getElem? (i := 31) rfl, List.forall_mem_cons.mpr ⟨List.mem_of_getElem? (i := 32) rfl, List.forall_mem_cons.mpr ⟨List.mem_of_getElem? (i := 12) rfl, List.forall_mem_cons.mpr ⟨List.mem_of_getElem? (i := 13) rfl, List.forall_mem_cons.mpr ⟨List.mem_of_getElem? (i := 14) rfl, List.forall_mem_cons.mpr ⟨List.mem_of_getElem? (i := 15) rfl, List.forall_mem_cons.mpr ⟨List.mem_of_getElem? (i := 16) rfl, List.forall_mem_cons.mpr ⟨List.mem_of_getElem? (i := 110) rfl, List.forall_mem_cons.mpr ⟨List.mem_of_getElem? (i := 111) rfl, List.forall_mem_cons.mpr ⟨List.mem_of_getElem? (i := 112) rfl, List.forall_mem_cons.mpr ⟨List.mem_of_getElem? (i := 113) rfl, List.forall_mem_cons.mpr ⟨List.mem_of_getElem? (i := 114) rfl, List.forall_mem_cons.mpr ⟨List.mem_of_getElem? (i := 85) rfl, List.forall_mem_cons.mpr ⟨List.mem_of_getElem? (i := 86) rfl, List.forall_mem_cons.mpr ⟨List.mem_of_getElem? (i := 53) rfl, List.forall_mem_cons.mpr ⟨List.mem_of_getElem? (i := 87) rfl, List.forall_mem_cons.mpr ⟨List.mem_of_getElem? (i := 88) rfl, List.forall_mem_cons.mpr ⟨List.mem_of_getElem? (i := 89) rfl, List.forall_mem_cons.mpr ⟨List.mem_of_getElem? (i := 90) rfl, List.forall_mem_cons.mpr ⟨List.mem_of_getElem? (i := 91) rfl, fun _ h => nomatch h⟩⟩⟩⟩⟩⟩⟩⟩⟩⟩⟩⟩⟩⟩⟩⟩⟩⟩⟩⟩⟩⟩⟩⟩
set_option maxRecDepth 20000 in
theorem ggX7_apply_X7_applyAddress_3 : ∀ w ∈ (wsX7_applyAddress_r3 : List Cond), w ∈ wsX7_apply := List.forall_mem_cons.mpr ⟨List.mem_of_getElem? (i := 7) rfl, List.forall_mem_cons.mpr ⟨List.mem_of_getElem? (i := 8) rfl, List.forall_mem_cons.mpr ⟨List.mem_of_getElem? (i := 9) rfl, List.forall_mem_cons.mpr ⟨List.mem_of_getElem? (i := 10) rfl, List.forall_mem_cons.mpr ⟨List.mem_of_getElem? (i := 11) rfl, List.forall_mem_cons.mpr ⟨List.mem_of_getElem? (i := 38) rfl, List.forall_mem_cons.mpr ⟨List.mem_of_getElem? (i := 39) rfl, List.forall_mem_cons.mpr ⟨List.mem_of_getElem? (i := 40) rfl, List.forall_mem_cons.mpr ⟨List.mem_of_getElem? (i := 41) rfl, List.forall_mem_cons.mpr ⟨List.mem_of_getElem? (i := 42) rfl, List.forall_mem_cons.mpr ⟨List.mem_of_getElem? (i := 43) rfl, List.forall_mem_cons.mpr ⟨List.mem_of_getElem? (i := 115) rfl, List.forall_mem_cons.mpr ⟨List.mem_of_getElem? (i := 116) rfl, List.forall_mem_cons.mpr ⟨List.mem_of_getElem? (i := 117) rfl, List.forall_mem_cons.mpr ⟨List.mem_of_getElem? (i := 118) rfl, List.forall_mem_cons.mpr ⟨List.mem_of_getElem? (i := 119) rfl, List.forall_mem_cons.mpr ⟨List.mem_of_getElem? (i := 120) rfl, List.forall_mem_cons.mpr ⟨List.mem_of_getElem? (i := 121) rfl, List.forall_mem_cons.mpr ⟨List.mem_of_getElem? (i := 122) rfl, List.forall_mem_cons.mpr ⟨List.mem_of_getElem? (i := 123) rfl, List.forall_mem_cons.mpr ⟨List.mem_of_getElem? (i := 124) rfl, List.forall_mem_cons.mpr ⟨List.mem_of_getElem? (i := 125) rfl, List.forall_mem_cons.mpr ⟨List.mem_of_getElem? (i := 126) rfl, List.forall_mem_cons.mpr ⟨List.mem_of_getElem? (i := 127) rfl, fun _ h => nomatch h⟩⟩⟩⟩⟩⟩⟩⟩⟩⟩⟩⟩⟩⟩⟩⟩⟩⟩⟩⟩⟩⟩⟩⟩
set_option maxRecDepth 20000 in
theorem ggX7_apply_X7_applyAddress_4 : ∀ w ∈ (wsX7_applyAddress_r4 : List Cond), w ∈ wsX7_apply := List.forall_mem_cons.mpr ⟨List.mem_of_getElem? (i := 128) rfl, List.forall_mem_cons.mpr ⟨List.mem_of_getElem? (i := 129) rfl, List.forall_mem_cons.mpr ⟨List.mem_of_getElem? (i := 130) rfl, List.forall_mem_cons.mpr ⟨List.mem_of_getElem? (i := 131) rfl, List.forall_mem_cons.mpr ⟨List.mem_of_getElem? (i := 132) rfl, List.forall_mem_cons.mpr ⟨List.mem_of_getElem? (i := 133) rfl, List.forall_mem_cons.mpr ⟨List.mem_of_getElem? (i := 134) rfl, List.forall_mem_cons.mpr ⟨List.mem_of_getElem? (i := 135) rfl, List.forall_mem_cons.mpr ⟨List.mem_of_getElem? (i := 136) rfl, List.forall_mem_cons.mpr ⟨List.mem_of_getElem? (i := 137) rfl, List.forall_mem_cons.mpr ⟨List.mem_of_getElem? (i := 138) rfl, List.forall_mem_cons.mpr ⟨List.mem_of_getElem? (i := 139) rfl, List.forall_mem_cons.mpr ⟨List.mem_of_getElem? (i := 140) rfl, List.forall_mem_cons.mpr ⟨List.mem_of_getElem? (i := 141) rfl, List.forall_mem_cons.mpr ⟨List.mem_of_getElem? (i := 142) rfl, List.forall_mem_cons.mpr ⟨List.mem_of_getElem? (i := 143) rfl, List.forall_mem_cons.mpr ⟨List.mem_of_getElem? (i := 144) rfl, List.forall_mem_cons.mpr ⟨List.mem_of_getElem? (i := 75) rfl, List.forall_mem_cons.mpr ⟨List.mem_of_getElem? (i := 76) rfl, List.forall_mem_cons.mpr ⟨List.mem_of_getElem? (i := 77) rfl, fun _ h => nomatch h⟩⟩⟩⟩⟩⟩⟩⟩⟩⟩⟩⟩⟩⟩⟩⟩⟩⟩⟩⟩
set_option maxRecDepth 20000 in
theorem ggX7_apply_X7_applyAddress_5 : ∀ w ∈ wsX10, w ∈ wsX7_apply := fun w h => List.mem_cons_of_mem _ (List.mem_append_left _ (List.mem_append_left _ (List.mem_append_right _ (h))))
set_option maxRecDepth 20000 in
theorem ggX7_apply_X7_applyAddress_6 : ∀ w ∈ wsX60, w ∈ wsX7_apply := fun w h => List.mem_cons_of_mem _ (List.mem_append_left _ (List.mem_append_right _ (h)))
set_option maxRecDepth 20000 in
theorem ggX7_apply_X7_applyAddress_7 : ∀ w ∈ wsX30, w ∈ wsX7_apply := fun w h => List.mem_cons_of_mem _ (List.mem_append_right _ (h))
theorem ggX7_apply_X7_applyAddress_m : ∀ w ∈ wsX7_applyAddress, w ∈ wsX7_apply := fun w h => (List.mem_cons.mp h).elim (fun e => by rw [e]; exact List.mem_of_getElem? (i := 101) rfl) (fun h => (List.mem_append.mp h).elim (fun h => (List.mem_append.mp h).elim (fun h => (List.mem_append.mp h).elim (fun h => (List.mem_append.mp h).elim (fun h => ggX7_apply_X7_applyAddress_1 w h) (fun h => (List.mem_append.mp h).elim (fun h => ggX7_apply_X7_applyAddress_2 w h) (fun h => (List.mem_append.mp h).elim (fun h => ggX7_apply_X7_applyAddress_3 w h) (fun h => ggX7_apply_X7_applyAddress_4 w h)))) (fun h => ggX7_apply_X7_applyAddress_5 w h)) (fun h => ggX7_apply_X7_applyAddress_6 w h)) (fun h => ggX7_apply_X7_applyAddress_7 w h))
set_option maxRecDepth 20000 in
theorem ggX7_apply_X7_applyAddress : GoodIn wsX7_apply wsX7_applyAddress := goodIn_sub ggX7_apply_X7_applyAddress_m (by decide +kernel)
theorem dX7_apply_0 : decode cX7_apply 0 = .ok (.aload_n 0, 1) := by decide +kernel
theorem dX7_apply_1 : decode cX7_apply 1 = .ok (.invokevirtual 9, 3) := by decide +kernel
theorem dX7_apply_4 : decode cX7_apply 4 = .ok (.tableswitch 152 0 4 #[36, 70, 86, 120, 143], 36) := by decide +kernel
theorem dX7_apply_40 : decode cX7_apply 40 = .ok (.aload_n 1, 1) := by decide +kernel
theorem dX7_apply_41 : decode cX7_apply 41 = .ok (.aload_n 0, 1) := by decide +kernel
theorem dX7_apply_42 : decode cX7_apply 42 = .ok (.invokevirtual 15, 3) := by decide +kernel
theorem dX7_apply_45 : decode cX7_apply 45 = .ok (.aload_n 0, 1) := by decide +kernel
theorem dX7_apply_46 : decode cX7_apply 46 = .ok (.invokevirtual 18, 3) := by decide +kernel
theorem dX7_apply_49 : decode cX7_apply 49 = .ok (.aload_n 1, 1) := by decide +kernel
theorem dX7_apply_50 : decode cX7_apply 50 = .ok (.aload_n 0, 1) := by decide +kernel
theorem dX7_apply_51 : decode cX7_apply 51 = .ok (.invokevirtual 21, 3) := by decide +kernel
theorem dX7_apply_54 : decode cX7_apply 54 = .ok (.invokevirtual 24, 3) := by decide +kernel
theorem dX7_apply_57 : decode cX7_apply 57 = .ok (.aload_n 1, 1) := by decide +kernel
theorem dX7_apply_58 : decode cX7_apply 58 = .ok (.aload_n 0, 1) := by decide +kernel
theorem dX7_apply_59 : decode cX7_apply 59 = .ok (.invokevirtual 30, 3) := by decide +kernel
theorem dX7_apply_62 : decode cX7_apply 62 = .ok (.invokevirtual 24, 3) := by decide +kernel
theorem dX7_apply_65 : decode cX7_apply 65 = .ok (.invokestatic 33, 3) := by decide +kernel
theorem dX7_apply_68 : decode cX7_apply 68 = .ok (.invokevirtual 39, 3) := by decide +kernel
theorem dX7_apply_71 : decode cX7_apply 71 = .ok (.goto 85, 3) := by decide +kernel
theorem dX7_apply_74 : decode cX7_apply 74 = .ok (.aload_n 1, 1) := by decide +kernel
theorem dX7_apply_75 : decode cX7_apply 75 = .ok (.aload_n 0, 1) := by decide +kernel
theorem dX7_apply_76 : decode cX7_apply 76 = .ok (.invokevirtual 15, 3) := by decide +kernel
theorem dX7_apply_79 : decode cX7_apply 79 = .ok (.aload_n 0, 1) := by decide +kernel
theorem dX7_apply_80 : decode cX7_apply 80 = .ok (.aload_n 1, 1) := by decide +kernel
theorem dX7_apply_81 : decode cX7_apply 81 = .ok (.invokestatic 43, 3) := by decide +kernel
theorem dX7_apply_84 : decode cX7_apply 84 = .ok (.invokevirtual 39, 3) := by decide +kernel
theorem dX7_apply_87 : decode cX7_apply 87 = .ok (.goto 69, 3) := by decide +kernel
theorem dX7_apply_90 : decode cX7_apply 90 = .ok (.aload_n 1, 1) := by decide +kernel
theorem dX7_apply_91 : decode cX7_apply 91 = .ok (.aload_n 0, 1) := by decide +kernel
theorem dX7_apply_92 : decode cX7_apply 92 = .ok (.invokevirtual 15, 3) := by decide +kernel
theorem dX7_apply_95 : decode cX7_apply 95 = .ok (.aload_n 0, 1) := by decide +kernel
theorem dX7_apply_96 : decode cX7_apply 96 = .ok (.invokevirtual 18, 3) := by decide +kernel
theorem dX7_apply_99 : decode cX7_apply 99 = .ok (.aload_n 1, 1) := by decide +kernel
theorem dX7_apply_100 : decode cX7_apply 100 = .ok (.aload_n 0, 1) := by decide +kernel
theorem dX7_apply_101 : decode cX7_apply 101 = .ok (.invokevirtual 21, 3) := by decide +kernel
theorem dX7_apply_104 : decode cX7_apply 104 = .ok (.invokevirtual 24, 3) := by decide +kernel
theorem dX7_apply_107 : decode cX7_apply 107 = .ok (.aload_n 1, 1) := by decide +kernel
theorem dX7_apply_108 : decode cX7_apply 108 = .ok (.aload_n 0, 1) := by decide +kernel
theorem dX7_apply_109 : decode cX7_apply 109 = .ok (.invokevirtual 30, 3) := by decide +kernel
theorem dX7_apply_112 : decode cX7_apply 112 = .ok (.invokevirtual 24, 3) := by decide +kernel
theorem dX7_apply_115 : decode cX7_apply 115 = .ok (.invokestatic 47, 3) := by decide +kernel
theorem dX7_apply_118 : decode cX7_apply 118 = .ok (.invokevirtual 39, 3) := by decide +kernel
theorem dX7_apply_121 : decode cX7_apply 121 = .ok (.goto 35, 3) := by decide +kernel
theorem dX7_apply_124 : decode cX7_apply 124 = .ok (.aload_n 1, 1) := by decide +kernel
theorem dX7_apply_125 : decode cX7_apply 125 = .ok (.aload_n 0, 1) := by decide +kernel
theorem dX7_apply_126 : decode cX7_apply 126 = .ok (.invokevirtual 15, 3) := by decide +kernel
theorem dX7_apply_129 : decode cX7_apply 129 = .ok (.aload_n 1, 1) := by decide +kernel
theorem dX7_apply_130 : decode cX7_apply 130 = .ok (.aload_n 0, 1) := by decide +kernel
theorem dX7_apply_131 : decode cX7_apply 131 = .ok (.invokevirtual 30, 3) := by decide +kernel
theorem dX7_apply_134 : decode cX7_apply 134 = .ok (.invokevirtual 24, 3) := by decide +kernel
theorem dX7_apply_137 : decode cX7_apply 137 = .ok (.invokestatic 50, 3) := by decide +kernel
theorem dX7_apply_140 : decode cX7_apply 140 = .ok (.i2l, 1) := by decide +kernel
theorem dX7_apply_141 : decode cX7_apply 141 = .ok (.invokevirtual 39, 3) := by decide +kernel
theorem dX7_apply_144 : decode cX7_apply 144 = .ok (.goto 12, 3) := by decide +kernel
theorem dX7_apply_147 : decode cX7_apply 147 = .ok (.aload_n 0, 1) := by decide +kernel
theorem dX7_apply_148 : decode cX7_apply 148 = .ok (.aload_n 1, 1) := by decide +kernel
theorem dX7_apply_149 : decode cX7_apply 149 = .ok (.aload_n 2, 1) := by decide +kernel
theorem dX7_apply_150 : decode cX7_apply 150 = .ok (.invokestatic 56, 3) := by decide +kernel
theorem dX7_apply_153 : decode cX7_apply 153 = .ok (.goto 3, 3) := by decide +kernel
theorem dX7_apply_156 : decode cX7_apply 156 = .ok (.return_, 1) := by decide +kernel
theorem dX7_logic_0 : decode cX7_logic 0 = .ok (.iload_n 0, 1) := by decide +kernel
theorem dX7_logic_1 : decode cX7_logic 1 = .ok (.tableswitch 79 8 14 #[43, 45, 49, 53, 57, 63, 71], 43) := by decide +kernel
theorem dX7_logic_44 : decode cX7_logic 44 = .ok (.lload_n 1, 1) := by decide +kernel
theorem dX7_logic_45 : decode cX7_logic 45 = .ok (.lreturn, 1) := by decide +kernel
theorem dX7_logic_46 : decode cX7_logic 46 = .ok (.lload_n 1, 1) := by decide +kernel
theorem dX7_logic_47 : decode cX7_logic 47 = .ok (.lload_n 3, 1) := by decide +kernel
theorem dX7_logic_48 : decode cX7_logic 48 = .ok (.land, 1) := by decide +kernel
theorem dX7_logic_49 : decode cX7_logic 49 = .ok (.lreturn, 1) := by decide +kernel
theorem dX7_logic_50 : decode cX7_logic 50 = .ok (.lload_n 1, 1) := by decide +kernel
theorem dX7_logic_51 : decode cX7_logic 51 = .ok (.lload_n 3, 1) := by decide +kernel
theorem dX7_logic_52 : decode cX7_logic 52 = .ok (.lor, 1) := by decide +kernel
theorem dX7_logic_53 : decode cX7_logic 53 = .ok (.lreturn, 1) := by decide +kernel
theorem dX7_logic_54 : decode cX7_logic 54 = .ok (.lload_n 1, 1) := by decide +kernel
theorem dX7_logic_55 : decode cX7_logic 55 = .ok (.lload_n 3, 1) := by decide +kernel
theorem dX7_logic_56 : decode cX7_logic 56 = .ok (.lxor, 1) := by decide +kernel
theorem dX7_logic_57 : decode cX7_logic 57 = .ok (.lreturn, 1) := by decide +kernel
theorem dX7_logic_58 : decode cX7_logic 58 = .ok (.lload_n 3, 1) := by decide +kernel
theorem dX7_logic_59 : decode cX7_logic 59 = .ok (.ldc2_w 60, 3) := by decide +kernel
theorem dX7_logic_62 : decode cX7_logic 62 = .ok (.lxor, 1) := by decide +kernel
theorem dX7_logic_63 : decode cX7_logic 63 = .ok (.lreturn, 1) := by decide +kernel
theorem dX7_logic_64 : decode cX7_logic 64 = .ok (.lload_n 1, 1) := by decide +kernel
theorem dX7_logic_65 : decode cX7_logic 65 = .ok (.lload_n 3, 1) := by decide +kernel
theorem dX7_logic_66 : decode cX7_logic 66 = .ok (.ldc2_w 60, 3) := by decide +kernel
theorem dX7_logic_69 : decode cX7_logic 69 = .ok (.lxor, 1) := by decide +kernel
theorem dX7_logic_70 : decode cX7_logic 70 = .ok (.land, 1) := by decide +kernel
theorem dX7_logic_71 : decode cX7_logic 71 = .ok (.lreturn, 1) := by decide +kernel
theorem dX7_logic_72 : decode cX7_logic 72 = .ok (.lload_n 1, 1) := by decide +kernel
theorem dX7_logic_73 : decode cX7_logic 73 = .ok (.lload_n 3, 1) := by decide +kernel
theorem dX7_logic_74 : decode cX7_logic 74 = .ok (.ldc2_w 60, 3) := by decide +kernel
theorem dX7_logic_77 : decode cX7_logic 77 = .ok (.lxor, 1) := by decide +kernel
theorem dX7_logic_78 : decode cX7_logic 78 = .ok (.lor, 1) := by decide +kernel
theorem dX7_logic_79 : decode cX7_logic 79 = .ok (.lreturn, 1) := by decide +kernel
theorem dX7_logic_80 : decode cX7_logic 80 = .ok (.lload_n 1, 1) := by decide +kernel
theorem dX7_logic_81 : decode cX7_logic 81 = .ok (.lload_n 3, 1) := by decide +kernel
theorem dX7_logic_82 : decode cX7_logic 82 = .ok (.ldc2_w 60, 3) := by decide +kernel
theorem dX7_logic_85 : decode cX7_logic 85 = .ok (.lxor, 1) := by decide +kernel
theorem dX7_logic_86 : decode cX7_logic 86 = .ok (.lxor, 1) := by decide +kernel
theorem dX7_logic_87 : decode cX7_logic 87 = .ok (.lreturn, 1) := by decide +kernel
set_option maxRecDepth 20000 in
theorem ggX7_shift_X1_op_1 : ∀ w ∈ ([.fieldLink RX1 25 "ScoreboardCore$Instruction" "op" "I"] : List Cond), w ∈ wsX7_shift := List.forall_mem_cons.mpr ⟨List.mem_of_getElem? (i := 6) rfl, fun _ h => nomatch h⟩
set_option maxRecDepth 20000 in
theorem ggX7_shift_X1_op_2 : ∀ w ∈ wsX10, w ∈ wsX7_shift := fun w h => List.mem_cons_of_mem _ (List.mem_append_left _ (List.mem_append_right _ (h)))
theorem ggX7_shift_X1_op_m : ∀ w ∈ wsX1_op, w ∈ wsX7_shift := fun w h => (List.mem_cons.mp h).elim (fun e => by rw [e]; exact List.mem_of_getElem? (i := 5) rfl) (fun h => (List.mem_append.mp h).elim (fun h => ggX7_shift_X1_op_1 w h) (fun h => ggX7_shift_X1_op_2 w h))
set_option maxRecDepth 20000 in
theorem ggX7_shift_X1_op : GoodIn wsX7_shift wsX1_op := goodIn_sub ggX7_shift_X1_op_m (by decide +kernel)
set_option maxRecDepth 20000 in
theorem ggX7_shift_X1_i_1 : ∀ w ∈ ([.fieldLink RX1 28 "ScoreboardCore$Instruction" "i" "I"] : List Cond), w ∈ wsX7_shift := List.forall_mem_cons.mpr ⟨List.mem_of_getElem? (i := 11) rfl, fun _ h => nomatch h⟩
set_option maxRecDepth 20000 in
theorem ggX7_shift_X1_i_2 : ∀ w ∈ wsX10, w ∈ wsX7_shift := fun w h => List.mem_cons_of_mem _ (List.mem_append_left _ (List.mem_append_right _ (h)))
theorem ggX7_shift_X1_i_m : ∀ w ∈ wsX1_i, w ∈ wsX7_shift := fun w h => (List.mem_cons.mp h).elim (fun e => by rw [e]; exact List.mem_of_getElem? (i := 10) rfl) (fun h => (List.mem_append.mp h).elim (fun h => ggX7_shift_X1_i_1 w h) (fun h => ggX7_shift_X1_i_2 w h))
set_option maxRecDepth 20000 in
theorem ggX7_shift_X1_i : GoodIn wsX7_shift wsX1_i := goodIn_sub ggX7_shift_X1_i_m (by decide +kernel)
set_option maxRecDepth 20000 in
theorem ggX7_shift_X6_x_1 : ∀ w ∈ ([.fieldLink RX6 9 "ScoreboardCore$Registers" "values" "[J"] : List Cond), w ∈ wsX7_shift := List.forall_mem_cons.mpr ⟨List.mem_of_getElem? (i := 17) rfl, fun _ h => nomatch h⟩
set_option maxRecDepth 20000 in
theorem ggX7_shift_X6_x_2 : ∀ w ∈ wsX60, w ∈ wsX7_shift := fun w h => List.mem_cons_of_mem _ (List.mem_append_right _ (h))
theorem ggX7_shift_X6_x_m : ∀ w ∈ wsX6_x, w ∈ wsX7_shift := fun w h => (List.mem_cons.mp h).elim (fun e => by rw [e]; exact List.mem_of_getElem? (i := 16) rfl) (fun h => (List.mem_append.mp h).elim (fun h => ggX7_shift_X6_x_1 w h) (fun h => ggX7_shift_X6_x_2 w h))
set_option maxRecDepth 20000 in
theorem ggX7_shift_X6_x : GoodIn wsX7_shift wsX6_x := goodIn_sub ggX7_shift_X6_x_m (by decide +kernel)
set_option maxRecDepth 20000 in
theorem ggX7_shift_X1_jk_1 : ∀ w ∈ ([.fieldLink RX1 31 "ScoreboardCore$Instruction" "j" "I", .fieldLink RX1 34 "ScoreboardCore$Instruction" "k" "I"] : List Cond), w ∈ wsX7_shift := List.forall_mem_cons.mpr ⟨List.mem_of_getElem? (i := 22) rfl, List.forall_mem_cons.mpr ⟨List.mem_of_getElem? (i := 23) rfl, fun _ h => nomatch h⟩⟩
set_option maxRecDepth 20000 in
theorem ggX7_shift_X1_jk_2 : ∀ w ∈ wsX10, w ∈ wsX7_shift := fun w h => List.mem_cons_of_mem _ (List.mem_append_left _ (List.mem_append_right _ (h)))
theorem ggX7_shift_X1_jk_m : ∀ w ∈ wsX1_jk, w ∈ wsX7_shift := fun w h => (List.mem_cons.mp h).elim (fun e => by rw [e]; exact List.mem_of_getElem? (i := 21) rfl) (fun h => (List.mem_append.mp h).elim (fun h => ggX7_shift_X1_jk_1 w h) (fun h => ggX7_shift_X1_jk_2 w h))
set_option maxRecDepth 20000 in
theorem ggX7_shift_X1_jk : GoodIn wsX7_shift wsX1_jk := goodIn_sub ggX7_shift_X1_jk_m (by decide +kernel)
set_option maxRecDepth 20000 in
theorem ggX7_shift_X4_turnedRoundLeft_1 : ∀ w ∈ ([.constantLong RX4 17 (1152921504606846975)] : List Cond), w ∈ wsX7_shift := List.forall_mem_cons.mpr ⟨List.mem_of_getElem? (i := 28) rfl, fun _ h => nomatch h⟩
theorem ggX7_shift_X4_turnedRoundLeft_m : ∀ w ∈ wsX4_turnedRoundLeft, w ∈ wsX7_shift := fun w h => (List.mem_cons.mp h).elim (fun e => by rw [e]; exact List.mem_of_getElem? (i := 27) rfl) (fun h => ggX7_shift_X4_turnedRoundLeft_1 w h)
set_option maxRecDepth 20000 in
theorem ggX7_shift_X4_turnedRoundLeft : GoodIn wsX7_shift wsX4_turnedRoundLeft := goodIn_sub ggX7_shift_X4_turnedRoundLeft_m (by decide +kernel)
set_option maxRecDepth 20000 in
theorem ggX7_shift_X4_shiftedRight_1 : ∀ w ∈ ([.constantLong RX4 30 (-1152921504606846976), .methodLink RX4 32 Lib.Math.min.name, .static Lib.Math.min.name, .initialized "java/lang/Math", .code Lib.Math.min.name Lib.Math.min.code 2 (some .int), .constantLong RX4 17 (1152921504606846975), .methodLink RX4 27 yX4_isNegative, .static yX4_isNegative, .initialized RX4, .code yX4_isNegative cX4_isNegative 2 (some .boolean)] : List Cond), w ∈ wsX7_shift := List.forall_mem_cons.mpr ⟨List.mem_of_getElem? (i := 32) rfl, List.forall_mem_cons.mpr ⟨List.mem_of_getElem? (i := 33) rfl, List.forall_mem_cons.mpr ⟨List.mem_of_getElem? (i := 34) rfl, List.forall_mem_cons.mpr ⟨List.mem_of_getElem? (i := 35) rfl, List.forall_mem_cons.mpr ⟨List.mem_of_getElem? (i := 36) rfl, List.forall_mem_cons.mpr ⟨List.mem_of_getElem? (i := 28) rfl, List.forall_mem_cons.mpr ⟨List.mem_of_getElem? (i := 37) rfl, List.forall_mem_cons.mpr ⟨List.mem_of_getElem? (i := 38) rfl, List.forall_mem_cons.mpr ⟨List.mem_of_getElem? (i := 26) rfl, List.forall_mem_cons.mpr ⟨List.mem_of_getElem? (i := 39) rfl, fun _ h => nomatch h⟩⟩⟩⟩⟩⟩⟩⟩⟩⟩
theorem ggX7_shift_X4_shiftedRight_m : ∀ w ∈ wsX4_shiftedRight, w ∈ wsX7_shift := fun w h => (List.mem_cons.mp h).elim (fun e => by rw [e]; exact List.mem_of_getElem? (i := 31) rfl) (fun h => ggX7_shift_X4_shiftedRight_1 w h)
set_option maxRecDepth 20000 in
theorem ggX7_shift_X4_shiftedRight : GoodIn wsX7_shift wsX4_shiftedRight := goodIn_sub ggX7_shift_X4_shiftedRight_m (by decide +kernel)
set_option maxRecDepth 20000 in
theorem ggX7_shift_X1_k_1 : ∀ w ∈ ([.fieldLink RX1 34 "ScoreboardCore$Instruction" "k" "I"] : List Cond), w ∈ wsX7_shift := List.forall_mem_cons.mpr ⟨List.mem_of_getElem? (i := 23) rfl, fun _ h => nomatch h⟩
set_option maxRecDepth 20000 in
theorem ggX7_shift_X1_k_2 : ∀ w ∈ wsX10, w ∈ wsX7_shift := fun w h => List.mem_cons_of_mem _ (List.mem_append_left _ (List.mem_append_right _ (h)))
theorem ggX7_shift_X1_k_m : ∀ w ∈ wsX1_k, w ∈ wsX7_shift := fun w h => (List.mem_cons.mp h).elim (fun e => by rw [e]; exact List.mem_of_getElem? (i := 43) rfl) (fun h => (List.mem_append.mp h).elim (fun h => ggX7_shift_X1_k_1 w h) (fun h => ggX7_shift_X1_k_2 w h))
set_option maxRecDepth 20000 in
theorem ggX7_shift_X1_k : GoodIn wsX7_shift wsX1_k := goodIn_sub ggX7_shift_X1_k_m (by decide +kernel)
set_option maxRecDepth 20000 in
theorem ggX7_shift_X1_j_1 : ∀ w ∈ ([.fieldLink RX1 31 "ScoreboardCore$Instruction" "j" "I"] : List Cond), w ∈ wsX7_shift := List.forall_mem_cons.mpr ⟨List.mem_of_getElem? (i := 22) rfl, fun _ h => nomatch h⟩
set_option maxRecDepth 20000 in
theorem ggX7_shift_X1_j_2 : ∀ w ∈ wsX10, w ∈ wsX7_shift := fun w h => List.mem_cons_of_mem _ (List.mem_append_left _ (List.mem_append_right _ (h)))
theorem ggX7_shift_X1_j_m : ∀ w ∈ wsX1_j, w ∈ wsX7_shift := fun w h => (List.mem_cons.mp h).elim (fun e => by rw [e]; exact List.mem_of_getElem? (i := 47) rfl) (fun h => (List.mem_append.mp h).elim (fun h => ggX7_shift_X1_j_1 w h) (fun h => ggX7_shift_X1_j_2 w h))
set_option maxRecDepth 20000 in
theorem ggX7_shift_X1_j : GoodIn wsX7_shift wsX1_j := goodIn_sub ggX7_shift_X1_j_m (by decide +kernel)
set_option maxRecDepth 20000 in
theorem ggX7_shift_X6_b_1 : ∀ w ∈ ([.fieldLink RX6 9 "ScoreboardCore$Registers" "values" "[J"] : List Cond), w ∈ wsX7_shift := List.forall_mem_cons.mpr ⟨List.mem_of_getElem? (i := 17) rfl, fun _ h => nomatch h⟩
set_option maxRecDepth 20000 in
theorem ggX7_shift_X6_b_2 : ∀ w ∈ wsX60, w ∈ wsX7_shift := fun w h => List.mem_cons_of_mem _ (List.mem_append_right _ (h))
theorem ggX7_shift_X6_b_m : ∀ w ∈ wsX6_b, w ∈ wsX7_shift := fun w h => (List.mem_cons.mp h).elim (fun e => by rw [e]; exact List.mem_of_getElem? (i := 51) rfl) (fun h => (List.mem_append.mp h).elim (fun h => ggX7_shift_X6_b_1 w h) (fun h => ggX7_shift_X6_b_2 w h))
set_option maxRecDepth 20000 in
theorem ggX7_shift_X6_b : GoodIn wsX7_shift wsX6_b := goodIn_sub ggX7_shift_X6_b_m (by decide +kernel)
set_option maxRecDepth 20000 in
theorem ggX7_shift_X7_shiftBy_1 : ∀ w ∈ ([.constantLong RX7 60 (-1), .methodLink RX7 84 yX4_isShortNegative, .static yX4_isShortNegative, .initialized RX4, .code yX4_isShortNegative cX4_isShortNegative 2 (some .boolean), .constantLong RX4 15 (131071), .methodLink RX7 65 yX4_turnedRoundLeft, .static yX4_turnedRoundLeft, .code yX4_turnedRoundLeft cX4_turnedRoundLeft 4 (some .long), .constantLong RX4 17 (1152921504606846975), .methodLink RX7 71 yX4_shiftedRight, .static yX4_shiftedRight, .code yX4_shiftedRight cX4_shiftedRight 5 (some .long), .constantLong RX4 30 (-1152921504606846976), .methodLink RX4 32 Lib.Math.min.name, .static Lib.Math.min.name, .initialized "java/lang/Math", .code Lib.Math.min.name Lib.Math.min.code 2 (some .int), .methodLink RX4 27 yX4_isNegative, .static yX4_isNegative, .code yX4_isNegative cX4_isNegative 2 (some .boolean)] : List Cond), w ∈ wsX7_shift := List.forall_mem_cons.mpr ⟨List.mem_of_getElem? (i := 56) rfl, List.forall_mem_cons.mpr ⟨List.mem_of_getElem? (i := 57) rfl, List.forall_mem_cons.mpr ⟨List.mem_of_getElem? (i := 58) rfl, List.forall_mem_cons.mpr ⟨List.mem_of_getElem? (i := 26) rfl, List.forall_mem_cons.mpr ⟨List.mem_of_getElem? (i := 59) rfl, List.forall_mem_cons.mpr ⟨List.mem_of_getElem? (i := 60) rfl, List.forall_mem_cons.mpr ⟨List.mem_of_getElem? (i := 24) rfl, List.forall_mem_cons.mpr ⟨List.mem_of_getElem? (i := 25) rfl, List.forall_mem_cons.mpr ⟨List.mem_of_getElem? (i := 27) rfl, List.forall_mem_cons.mpr ⟨List.mem_of_getElem? (i := 28) rfl, List.forall_mem_cons.mpr ⟨List.mem_of_getElem? (i := 29) rfl, List.forall_mem_cons.mpr ⟨List.mem_of_getElem? (i := 30) rfl, List.forall_mem_cons.mpr ⟨List.mem_of_getElem? (i := 31) rfl, List.forall_mem_cons.mpr ⟨List.mem_of_getElem? (i := 32) rfl, List.forall_mem_cons.mpr ⟨List.mem_of_getElem? (i := 33) rfl, List.forall_mem_cons.mpr ⟨List.mem_of_getElem? (i := 34) rfl, List.forall_mem_cons.mpr ⟨List.mem_of_getElem? (i := 35) rfl, List.forall_mem_cons.mpr ⟨List.mem_of_getElem? (i := 36) rfl, List.forall_mem_cons.mpr ⟨List.mem_of_getElem? (i := 37) rfl, List.forall_mem_cons.mpr ⟨List.mem_of_getElem? (i := 38) rfl, List.forall_mem_cons.mpr ⟨List.mem_of_getElem? (i := 39) rfl, fun _ h => nomatch h⟩⟩⟩⟩⟩⟩⟩⟩⟩⟩⟩⟩⟩⟩⟩⟩⟩⟩⟩⟩⟩
theorem ggX7_shift_X7_shiftBy_m : ∀ w ∈ wsX7_shiftBy, w ∈ wsX7_shift := fun w h => (List.mem_cons.mp h).elim (fun e => by rw [e]; exact List.mem_of_getElem? (i := 55) rfl) (fun h => ggX7_shift_X7_shiftBy_1 w h)
set_option maxRecDepth 20000 in
theorem ggX7_shift_X7_shiftBy : GoodIn wsX7_shift wsX7_shiftBy := goodIn_sub ggX7_shift_X7_shiftBy_m (by decide +kernel)
set_option maxRecDepth 20000 in
theorem ggX7_shift_X4_highestBits_1 : ∀ w ∈ ([.constantLong RX4 17 (1152921504606846975), .methodLink RX4 32 Lib.Math.min.name, .static Lib.Math.min.name, .initialized "java/lang/Math", .code Lib.Math.min.name Lib.Math.min.code 2 (some .int)] : List Cond), w ∈ wsX7_shift := List.forall_mem_cons.mpr ⟨List.mem_of_getElem? (i := 28) rfl, List.forall_mem_cons.mpr ⟨List.mem_of_getElem? (i := 33) rfl, List.forall_mem_cons.mpr ⟨List.mem_of_getElem? (i := 34) rfl, List.forall_mem_cons.mpr ⟨List.mem_of_getElem? (i := 35) rfl, List.forall_mem_cons.mpr ⟨List.mem_of_getElem? (i := 36) rfl, fun _ h => nomatch h⟩⟩⟩⟩⟩
theorem ggX7_shift_X4_highestBits_m : ∀ w ∈ wsX4_highestBits, w ∈ wsX7_shift := fun w h => (List.mem_cons.mp h).elim (fun e => by rw [e]; exact List.mem_of_getElem? (i := 63) rfl) (fun h => ggX7_shift_X4_highestBits_1 w h)
set_option maxRecDepth 20000 in
theorem ggX7_shift_X4_highestBits : GoodIn wsX7_shift wsX4_highestBits := goodIn_sub ggX7_shift_X4_highestBits_m (by decide +kernel)
theorem dX7_shift_0 : decode cX7_shift 0 = .ok (.aload_n 0, 1) := by decide +kernel
theorem dX7_shift_1 : decode cX7_shift 1 = .ok (.invokevirtual 18, 3) := by decide +kernel
theorem dX7_shift_4 : decode cX7_shift 4 = .ok (.tableswitch 106 16 19 #[32, 48, 64, 85], 32) := by decide +kernel
theorem dX7_shift_36 : decode cX7_shift 36 = .ok (.aload_n 1, 1) := by decide +kernel
theorem dX7_shift_37 : decode cX7_shift 37 = .ok (.aload_n 0, 1) := by decide +kernel
theorem dX7_shift_38 : decode cX7_shift 38 = .ok (.invokevirtual 15, 3) := by decide +kernel
theorem dX7_shift_41 : decode cX7_shift 41 = .ok (.invokevirtual 24, 3) := by decide +kernel
theorem dX7_shift_44 : decode cX7_shift 44 = .ok (.aload_n 0, 1) := by decide +kernel
theorem dX7_shift_45 : decode cX7_shift 45 = .ok (.invokevirtual 62, 3) := by decide +kernel
theorem dX7_shift_48 : decode cX7_shift 48 = .ok (.invokestatic 65, 3) := by decide +kernel
theorem dX7_shift_51 : decode cX7_shift 51 = .ok (.lreturn, 1) := by decide +kernel
theorem dX7_shift_52 : decode cX7_shift 52 = .ok (.aload_n 1, 1) := by decide +kernel
theorem dX7_shift_53 : decode cX7_shift 53 = .ok (.aload_n 0, 1) := by decide +kernel
theorem dX7_shift_54 : decode cX7_shift 54 = .ok (.invokevirtual 15, 3) := by decide +kernel
theorem dX7_shift_57 : decode cX7_shift 57 = .ok (.invokevirtual 24, 3) := by decide +kernel
theorem dX7_shift_60 : decode cX7_shift 60 = .ok (.aload_n 0, 1) := by decide +kernel
theorem dX7_shift_61 : decode cX7_shift 61 = .ok (.invokevirtual 62, 3) := by decide +kernel
theorem dX7_shift_64 : decode cX7_shift 64 = .ok (.invokestatic 71, 3) := by decide +kernel
theorem dX7_shift_67 : decode cX7_shift 67 = .ok (.lreturn, 1) := by decide +kernel
theorem dX7_shift_68 : decode cX7_shift 68 = .ok (.aload_n 1, 1) := by decide +kernel
theorem dX7_shift_69 : decode cX7_shift 69 = .ok (.aload_n 0, 1) := by decide +kernel
theorem dX7_shift_70 : decode cX7_shift 70 = .ok (.invokevirtual 30, 3) := by decide +kernel
theorem dX7_shift_73 : decode cX7_shift 73 = .ok (.invokevirtual 24, 3) := by decide +kernel
theorem dX7_shift_76 : decode cX7_shift 76 = .ok (.aload_n 1, 1) := by decide +kernel
theorem dX7_shift_77 : decode cX7_shift 77 = .ok (.aload_n 0, 1) := by decide +kernel
theorem dX7_shift_78 : decode cX7_shift 78 = .ok (.invokevirtual 21, 3) := by decide +kernel
theorem dX7_shift_81 : decode cX7_shift 81 = .ok (.invokevirtual 74, 3) := by decide +kernel
theorem dX7_shift_84 : decode cX7_shift 84 = .ok (.iconst 1, 1) := by decide +kernel
theorem dX7_shift_85 : decode cX7_shift 85 = .ok (.invokestatic 77, 3) := by decide +kernel
theorem dX7_shift_88 : decode cX7_shift 88 = .ok (.lreturn, 1) := by decide +kernel
theorem dX7_shift_89 : decode cX7_shift 89 = .ok (.aload_n 1, 1) := by decide +kernel
theorem dX7_shift_90 : decode cX7_shift 90 = .ok (.aload_n 0, 1) := by decide +kernel
theorem dX7_shift_91 : decode cX7_shift 91 = .ok (.invokevirtual 30, 3) := by decide +kernel
theorem dX7_shift_94 : decode cX7_shift 94 = .ok (.invokevirtual 24, 3) := by decide +kernel
theorem dX7_shift_97 : decode cX7_shift 97 = .ok (.aload_n 1, 1) := by decide +kernel
theorem dX7_shift_98 : decode cX7_shift 98 = .ok (.aload_n 0, 1) := by decide +kernel
theorem dX7_shift_99 : decode cX7_shift 99 = .ok (.invokevirtual 21, 3) := by decide +kernel
theorem dX7_shift_102 : decode cX7_shift 102 = .ok (.invokevirtual 74, 3) := by decide +kernel
theorem dX7_shift_105 : decode cX7_shift 105 = .ok (.iconst 0, 1) := by decide +kernel
theorem dX7_shift_106 : decode cX7_shift 106 = .ok (.invokestatic 77, 3) := by decide +kernel
theorem dX7_shift_109 : decode cX7_shift 109 = .ok (.lreturn, 1) := by decide +kernel
theorem dX7_shift_110 : decode cX7_shift 110 = .ok (.aload_n 0, 1) := by decide +kernel
theorem dX7_shift_111 : decode cX7_shift 111 = .ok (.invokevirtual 62, 3) := by decide +kernel
theorem dX7_shift_114 : decode cX7_shift 114 = .ok (.invokestatic 81, 3) := by decide +kernel
theorem dX7_shift_117 : decode cX7_shift 117 = .ok (.lreturn, 1) := by decide +kernel
set_option maxRecDepth 20000 in
theorem ggX7_shiftBy_X4_isShortNegative_1 : ∀ w ∈ ([.constantLong RX4 15 (131071)] : List Cond), w ∈ wsX7_shiftBy := List.forall_mem_cons.mpr ⟨List.mem_of_getElem? (i := 6) rfl, fun _ h => nomatch h⟩
theorem ggX7_shiftBy_X4_isShortNegative_m : ∀ w ∈ wsX4_isShortNegative, w ∈ wsX7_shiftBy := fun w h => (List.mem_cons.mp h).elim (fun e => by rw [e]; exact List.mem_of_getElem? (i := 5) rfl) (fun h => ggX7_shiftBy_X4_isShortNegative_1 w h)
set_option maxRecDepth 20000 in
theorem ggX7_shiftBy_X4_isShortNegative : GoodIn wsX7_shiftBy wsX4_isShortNegative := goodIn_sub ggX7_shiftBy_X4_isShortNegative_m (by decide +kernel)
set_option maxRecDepth 20000 in
theorem ggX7_shiftBy_X4_turnedRoundLeft_1 : ∀ w ∈ ([.constantLong RX4 17 (1152921504606846975)] : List Cond), w ∈ wsX7_shiftBy := List.forall_mem_cons.mpr ⟨List.mem_of_getElem? (i := 10) rfl, fun _ h => nomatch h⟩
theorem ggX7_shiftBy_X4_turnedRoundLeft_m : ∀ w ∈ wsX4_turnedRoundLeft, w ∈ wsX7_shiftBy := fun w h => (List.mem_cons.mp h).elim (fun e => by rw [e]; exact List.mem_of_getElem? (i := 9) rfl) (fun h => ggX7_shiftBy_X4_turnedRoundLeft_1 w h)
set_option maxRecDepth 20000 in
theorem ggX7_shiftBy_X4_turnedRoundLeft : GoodIn wsX7_shiftBy wsX4_turnedRoundLeft := goodIn_sub ggX7_shiftBy_X4_turnedRoundLeft_m (by decide +kernel)
set_option maxRecDepth 20000 in
theorem ggX7_shiftBy_X4_shiftedRight_1 : ∀ w ∈ ([.constantLong RX4 30 (-1152921504606846976), .methodLink RX4 32 Lib.Math.min.name, .static Lib.Math.min.name, .initialized "java/lang/Math", .code Lib.Math.min.name Lib.Math.min.code 2 (some .int), .constantLong RX4 17 (1152921504606846975), .methodLink RX4 27 yX4_isNegative, .static yX4_isNegative, .initialized RX4, .code yX4_isNegative cX4_isNegative 2 (some .boolean)] : List Cond), w ∈ wsX7_shiftBy := List.forall_mem_cons.mpr ⟨List.mem_of_getElem? (i := 14) rfl, List.forall_mem_cons.mpr ⟨List.mem_of_getElem? (i := 15) rfl, List.forall_mem_cons.mpr ⟨List.mem_of_getElem? (i := 16) rfl, List.forall_mem_cons.mpr ⟨List.mem_of_getElem? (i := 17) rfl, List.forall_mem_cons.mpr ⟨List.mem_of_getElem? (i := 18) rfl, List.forall_mem_cons.mpr ⟨List.mem_of_getElem? (i := 10) rfl, List.forall_mem_cons.mpr ⟨List.mem_of_getElem? (i := 19) rfl, List.forall_mem_cons.mpr ⟨List.mem_of_getElem? (i := 20) rfl, List.forall_mem_cons.mpr ⟨List.mem_of_getElem? (i := 4) rfl, List.forall_mem_cons.mpr ⟨List.mem_of_getElem? (i := 21) rfl, fun _ h => nomatch h⟩⟩⟩⟩⟩⟩⟩⟩⟩⟩
theorem ggX7_shiftBy_X4_shiftedRight_m : ∀ w ∈ wsX4_shiftedRight, w ∈ wsX7_shiftBy := fun w h => (List.mem_cons.mp h).elim (fun e => by rw [e]; exact List.mem_of_getElem? (i := 13) rfl) (fun h => ggX7_shiftBy_X4_shiftedRight_1 w h)
set_option maxRecDepth 20000 in
theorem ggX7_shiftBy_X4_shiftedRight : GoodIn wsX7_shiftBy wsX4_shiftedRight := goodIn_sub ggX7_shiftBy_X4_shiftedRight_m (by decide +kernel)
theorem dX7_shiftBy_0 : decode cX7_shiftBy 0 = .ok (.lload_n 2, 1) := by decide +kernel
theorem dX7_shiftBy_1 : decode cX7_shiftBy 1 = .ok (.invokestatic 84, 3) := by decide +kernel
theorem dX7_shiftBy_4 : decode cX7_shiftBy 4 = .ok (.istore 5, 2) := by decide +kernel
theorem dX7_shiftBy_6 : decode cX7_shiftBy 6 = .ok (.iload 5, 2) := by decide +kernel
theorem dX7_shiftBy_8 : decode cX7_shiftBy 8 = .ok (.ifCond .eq 11, 3) := by decide +kernel
theorem dX7_shiftBy_11 : decode cX7_shiftBy 11 = .ok (.lload_n 2, 1) := by decide +kernel
theorem dX7_shiftBy_12 : decode cX7_shiftBy 12 = .ok (.ldc2_w 60, 3) := by decide +kernel
theorem dX7_shiftBy_15 : decode cX7_shiftBy 15 = .ok (.lxor, 1) := by decide +kernel
theorem dX7_shiftBy_16 : decode cX7_shiftBy 16 = .ok (.goto 4, 3) := by decide +kernel
theorem dX7_shiftBy_19 : decode cX7_shiftBy 19 = .ok (.lload_n 2, 1) := by decide +kernel
theorem dX7_shiftBy_20 : decode cX7_shiftBy 20 = .ok (.l2i, 1) := by decide +kernel
theorem dX7_shiftBy_21 : decode cX7_shiftBy 21 = .ok (.bipush 63, 2) := by decide +kernel
theorem dX7_shiftBy_23 : decode cX7_shiftBy 23 = .ok (.iand, 1) := by decide +kernel
theorem dX7_shiftBy_24 : decode cX7_shiftBy 24 = .ok (.istore 6, 2) := by decide +kernel
theorem dX7_shiftBy_26 : decode cX7_shiftBy 26 = .ok (.iload 4, 2) := by decide +kernel
theorem dX7_shiftBy_28 : decode cX7_shiftBy 28 = .ok (.iload 5, 2) := by decide +kernel
theorem dX7_shiftBy_30 : decode cX7_shiftBy 30 = .ok (.if_icmp .eq 12, 3) := by decide +kernel
theorem dX7_shiftBy_33 : decode cX7_shiftBy 33 = .ok (.lload_n 0, 1) := by decide +kernel
theorem dX7_shiftBy_34 : decode cX7_shiftBy 34 = .ok (.iload 6, 2) := by decide +kernel
theorem dX7_shiftBy_36 : decode cX7_shiftBy 36 = .ok (.invokestatic 65, 3) := by decide +kernel
theorem dX7_shiftBy_39 : decode cX7_shiftBy 39 = .ok (.goto 9, 3) := by decide +kernel
theorem dX7_shiftBy_42 : decode cX7_shiftBy 42 = .ok (.lload_n 0, 1) := by decide +kernel
theorem dX7_shiftBy_43 : decode cX7_shiftBy 43 = .ok (.iload 6, 2) := by decide +kernel
theorem dX7_shiftBy_45 : decode cX7_shiftBy 45 = .ok (.invokestatic 71, 3) := by decide +kernel
theorem dX7_shiftBy_48 : decode cX7_shiftBy 48 = .ok (.lreturn, 1) := by decide +kernel
set_option maxRecDepth 20000 in
theorem ggX7_wordSum_X4_sum_1 : ∀ w ∈ ([] : List Cond), w ∈ wsX7_wordSum := fun _ h => nomatch h
theorem ggX7_wordSum_X4_sum_m : ∀ w ∈ wsX4_sum, w ∈ wsX7_wordSum := fun w h => (List.mem_cons.mp h).elim (fun e => by rw [e]; exact List.mem_of_getElem? (i := 5) rfl) (fun h => ggX7_wordSum_X4_sum_1 w h)
set_option maxRecDepth 20000 in
theorem ggX7_wordSum_X4_sum : GoodIn wsX7_wordSum wsX4_sum := goodIn_sub ggX7_wordSum_X4_sum_m (by decide +kernel)
set_option maxRecDepth 20000 in
theorem ggX7_wordSum_X4_difference_1 : ∀ w ∈ ([.methodLink RX4 9 yX4_sum, .static yX4_sum, .initialized RX4, .code yX4_sum cX4_sum 9 (some .long)] : List Cond), w ∈ wsX7_wordSum := List.forall_mem_cons.mpr ⟨List.mem_of_getElem? (i := 9) rfl, List.forall_mem_cons.mpr ⟨List.mem_of_getElem? (i := 3) rfl, List.forall_mem_cons.mpr ⟨List.mem_of_getElem? (i := 4) rfl, List.forall_mem_cons.mpr ⟨List.mem_of_getElem? (i := 5) rfl, fun _ h => nomatch h⟩⟩⟩⟩
theorem ggX7_wordSum_X4_difference_m : ∀ w ∈ wsX4_difference, w ∈ wsX7_wordSum := fun w h => (List.mem_cons.mp h).elim (fun e => by rw [e]; exact List.mem_of_getElem? (i := 8) rfl) (fun h => ggX7_wordSum_X4_difference_1 w h)
set_option maxRecDepth 20000 in
theorem ggX7_wordSum_X4_difference : GoodIn wsX7_wordSum wsX4_difference := goodIn_sub ggX7_wordSum_X4_difference_m (by decide +kernel)
theorem dX7_wordSum_0 : decode cX7_wordSum 0 = .ok (.iload_n 0, 1) := by decide +kernel
theorem dX7_wordSum_1 : decode cX7_wordSum 1 = .ok (.bipush 30, 2) := by decide +kernel
theorem dX7_wordSum_3 : decode cX7_wordSum 3 = .ok (.if_icmp .ne 14, 3) := by decide +kernel
theorem dX7_wordSum_6 : decode cX7_wordSum 6 = .ok (.lload_n 1, 1) := by decide +kernel
theorem dX7_wordSum_7 : decode cX7_wordSum 7 = .ok (.lload_n 3, 1) := by decide +kernel
theorem dX7_wordSum_8 : decode cX7_wordSum 8 = .ok (.ldc2_w 88, 3) := by decide +kernel
theorem dX7_wordSum_11 : decode cX7_wordSum 11 = .ok (.invokestatic 90, 3) := by decide +kernel
theorem dX7_wordSum_14 : decode cX7_wordSum 14 = .ok (.goto 11, 3) := by decide +kernel
theorem dX7_wordSum_17 : decode cX7_wordSum 17 = .ok (.lload_n 1, 1) := by decide +kernel
theorem dX7_wordSum_18 : decode cX7_wordSum 18 = .ok (.lload_n 3, 1) := by decide +kernel
theorem dX7_wordSum_19 : decode cX7_wordSum 19 = .ok (.ldc2_w 88, 3) := by decide +kernel
theorem dX7_wordSum_22 : decode cX7_wordSum 22 = .ok (.invokestatic 94, 3) := by decide +kernel
theorem dX7_wordSum_25 : decode cX7_wordSum 25 = .ok (.lreturn, 1) := by decide +kernel
set_option maxRecDepth 20000 in
theorem ggX7_applyAddress_X7_shortSum_1 : ∀ w ∈ (wsX7_shortSum_r1 : List Cond), w ∈ wsX7_applyAddress := List.forall_mem_cons.mpr ⟨List.mem_of_getElem? (i := 5) rfl, List.forall_mem_cons.mpr ⟨List.mem_of_getElem? (i := 6) rfl, List.forall_mem_cons.mpr ⟨List.mem_of_getElem? (i := 7) rfl, List.forall_mem_cons.mpr ⟨List.mem_of_getElem? (i := 8) rfl, List.forall_mem_cons.mpr ⟨List.mem_of_getElem? (i := 9) rfl, List.forall_mem_cons.mpr ⟨List.mem_of_getElem? (i := 10) rfl, List.forall_mem_cons.mpr ⟨List.mem_of_getElem? (i := 11) rfl, List.forall_mem_cons.mpr ⟨List.mem_of_getElem? (i := 12) rfl, List.forall_mem_cons.mpr ⟨List.mem_of_getElem? (i := 13) rfl, List.forall_mem_cons.mpr ⟨List.mem_of_getElem? (i := 14) rfl, List.forall_mem_cons.mpr ⟨List.mem_of_getElem? (i := 15) rfl, List.forall_mem_cons.mpr ⟨List.mem_of_getElem? (i := 16) rfl, List.forall_mem_cons.mpr ⟨List.mem_of_getElem? (i := 17) rfl, List.forall_mem_cons.mpr ⟨List.mem_of_getElem? (i := 18) rfl, List.forall_mem_cons.mpr ⟨List.mem_of_getElem? (i := 19) rfl, List.forall_mem_cons.mpr ⟨List.mem_of_getElem? (i := 20) rfl, List.forall_mem_cons.mpr ⟨List.mem_of_getElem? (i := 21) rfl, List.forall_mem_cons.mpr ⟨List.mem_of_getElem? (i := 22) rfl, List.forall_mem_cons.mpr ⟨List.mem_of_getElem? (i := 23) rfl, List.forall_mem_cons.mpr ⟨List.mem_of_getElem? (i := 24) rfl, List.forall_mem_cons.mpr ⟨List.mem_of_getElem? (i := 25) rfl, List.forall_mem_cons.mpr ⟨List.mem_of_getElem? (i := 26) rfl, List.forall_mem_cons.mpr ⟨List.mem_of_getElem? (i := 27) rfl, List.forall_mem_cons.mpr ⟨List.mem_of_getElem? (i := 28) rfl, fun _ h => nomatch h⟩⟩⟩⟩⟩⟩⟩⟩⟩⟩⟩⟩⟩⟩⟩⟩⟩⟩⟩⟩⟩⟩⟩⟩
set_option maxRecDepth 20000 in
theorem ggX7_applyAddress_X7_shortSum_2 : ∀ w ∈ (wsX7_shortSum_r2 : List Cond), w ∈ wsX7_applyAddress := List.forall_mem_cons.mpr ⟨List.mem_of_getElem? (i := 29) rfl, List.forall_mem_cons.mpr ⟨List.mem_of_getElem? (i := 30) rfl, List.forall_mem_cons.mpr ⟨List.mem_of_getElem? (i := 31) rfl, List.forall_mem_cons.mpr ⟨List.mem_of_getElem? (i := 32) rfl, List.forall_mem_cons.mpr ⟨List.mem_of_getElem? (i := 33) rfl, List.forall_mem_cons.mpr ⟨List.mem_of_getElem? (i := 34) rfl, List.forall_mem_cons.mpr ⟨List.mem_of_getElem? (i := 35) rfl, List.forall_mem_cons.mpr ⟨List.mem_of_getElem? (i := 36) rfl, List.forall_mem_cons.mpr ⟨List.mem_of_getElem? (i := 37) rfl, List.forall_mem_cons.mpr ⟨List.mem_of_getElem? (i := 38) rfl, List.forall_mem_cons.mpr ⟨List.mem_of_getElem? (i := 39) rfl, List.forall_mem_cons.mpr ⟨List.mem_of_getElem? (i := 40) rfl, List.forall_mem_cons.mpr ⟨List.mem_of_getElem? (i := 41) rfl, List.forall_mem_cons.mpr ⟨List.mem_of_getElem? (i := 42) rfl, List.forall_mem_cons.mpr ⟨List.mem_of_getElem? (i := 43) rfl, List.forall_mem_cons.mpr ⟨List.mem_of_getElem? (i := 44) rfl, List.forall_mem_cons.mpr ⟨List.mem_of_getElem? (i := 45) rfl, List.forall_mem_cons.mpr ⟨List.mem_of_getElem? (i := 46) rfl, List.forall_mem_cons.mpr ⟨List.mem_of_getElem? (i := 47) rfl, List.forall_mem_cons.mpr ⟨List.mem_of_getElem? (i := 48) rfl, fun _ h => nomatch h⟩⟩⟩⟩⟩⟩⟩⟩⟩⟩⟩⟩⟩⟩⟩⟩⟩⟩⟩⟩
set_option maxRecDepth 20000 in
theorem ggX7_applyAddress_X7_shortSum_3 : ∀ w ∈ wsX10, w ∈ wsX7_applyAddress := fun w h => List.mem_cons_of_mem _ (List.mem_append_left _ (List.mem_append_left _ (List.mem_append_right _ (h))))
set_option maxRecDepth 20000 in
theorem ggX7_applyAddress_X7_shortSum_4 : ∀ w ∈ wsX60, w ∈ wsX7_applyAddress := fun w h => List.mem_cons_of_mem _ (List.mem_append_left _ (List.mem_append_right _ (h)))
theorem ggX7_applyAddress_X7_shortSum_m : ∀ w ∈ wsX7_shortSum, w ∈ wsX7_applyAddress := fun w h => (List.mem_cons.mp h).elim (fun e => by rw [e]; exact List.mem_of_getElem? (i := 4) rfl) (fun h => (List.mem_append.mp h).elim (fun h => (List.mem_append.mp h).elim (fun h => (List.mem_append.mp h).elim (fun h => ggX7_applyAddress_X7_shortSum_1 w h) (fun h => ggX7_applyAddress_X7_shortSum_2 w h)) (fun h => ggX7_applyAddress_X7_shortSum_3 w h)) (fun h => ggX7_applyAddress_X7_shortSum_4 w h))
set_option maxRecDepth 20000 in
theorem ggX7_applyAddress_X7_shortSum : GoodIn wsX7_applyAddress wsX7_shortSum := goodIn_sub ggX7_applyAddress_X7_shortSum_m (by decide +kernel)
set_option maxRecDepth 20000 in
theorem ggX7_applyAddress_X1_i_1 : ∀ w ∈ ([.fieldLink RX1 28 "ScoreboardCore$Instruction" "i" "I"] : List Cond), w ∈ wsX7_applyAddress := List.forall_mem_cons.mpr ⟨List.mem_of_getElem? (i := 53) rfl, fun _ h => nomatch h⟩
set_option maxRecDepth 20000 in
theorem ggX7_applyAddress_X1_i_2 : ∀ w ∈ wsX10, w ∈ wsX7_applyAddress := fun w h => List.mem_cons_of_mem _ (List.mem_append_left _ (List.mem_append_left _ (List.mem_append_right _ (h))))
theorem ggX7_applyAddress_X1_i_m : ∀ w ∈ wsX1_i, w ∈ wsX7_applyAddress := fun w h => (List.mem_cons.mp h).elim (fun e => by rw [e]; exact List.mem_of_getElem? (i := 52) rfl) (fun h => (List.mem_append.mp h).elim (fun h => ggX7_applyAddress_X1_i_1 w h) (fun h => ggX7_applyAddress_X1_i_2 w h))
set_option maxRecDepth 20000 in
theorem ggX7_applyAddress_X1_i : GoodIn wsX7_applyAddress wsX1_i := goodIn_sub ggX7_applyAddress_X1_i_m (by decide +kernel)
set_option maxRecDepth 20000 in
theorem ggX7_applyAddress_X1_op_1 : ∀ w ∈ ([.fieldLink RX1 25 "ScoreboardCore$Instruction" "op" "I"] : List Cond), w ∈ wsX7_applyAddress := List.forall_mem_cons.mpr ⟨List.mem_of_getElem? (i := 35) rfl, fun _ h => nomatch h⟩
set_option maxRecDepth 20000 in
theorem ggX7_applyAddress_X1_op_2 : ∀ w ∈ wsX10, w ∈ wsX7_applyAddress := fun w h => List.mem_cons_of_mem _ (List.mem_append_left _ (List.mem_append_left _ (List.mem_append_right _ (h))))
theorem ggX7_applyAddress_X1_op_m : ∀ w ∈ wsX1_op, w ∈ wsX7_applyAddress := fun w h => (List.mem_cons.mp h).elim (fun e => by rw [e]; exact List.mem_of_getElem? (i := 34) rfl) (fun h => (List.mem_append.mp h).elim (fun h => ggX7_applyAddress_X1_op_1 w h) (fun h => ggX7_applyAddress_X1_op_2 w h))
set_option maxRecDepth 20000 in
theorem ggX7_applyAddress_X1_op : GoodIn wsX7_applyAddress wsX1_op := goodIn_sub ggX7_applyAddress_X1_op_m (by decide +kernel)
set_option maxRecDepth 20000 in
theorem ggX7_applyAddress_X6_set_1 : ∀ w ∈ ([.fieldLink RX6 9 "ScoreboardCore$Registers" "values" "[J", .constantLong RX6 15 (1152921504606846975), .constantLong RX6 17 (262143)] : List Cond), w ∈ wsX7_applyAddress := List.forall_mem_cons.mpr ⟨List.mem_of_getElem? (i := 17) rfl, List.forall_mem_cons.mpr ⟨List.mem_of_getElem? (i := 58) rfl, List.forall_mem_cons.mpr ⟨List.mem_of_getElem? (i := 59) rfl, fun _ h => nomatch h⟩⟩⟩
set_option maxRecDepth 20000 in
theorem ggX7_applyAddress_X6_set_2 : ∀ w ∈ wsX60, w ∈ wsX7_applyAddress := fun w h => List.mem_cons_of_mem _ (List.mem_append_left _ (List.mem_append_right _ (h)))
theorem ggX7_applyAddress_X6_set_m : ∀ w ∈ wsX6_set, w ∈ wsX7_applyAddress := fun w h => (List.mem_cons.mp h).elim (fun e => by rw [e]; exact List.mem_of_getElem? (i := 57) rfl) (fun h => (List.mem_append.mp h).elim (fun h => ggX7_applyAddress_X6_set_1 w h) (fun h => ggX7_applyAddress_X6_set_2 w h))
set_option maxRecDepth 20000 in
theorem ggX7_applyAddress_X6_set : GoodIn wsX7_applyAddress wsX6_set := goodIn_sub ggX7_applyAddress_X6_set_m (by decide +kernel)
set_option maxRecDepth 20000 in
theorem ggX7_applyAddress_X7_reachMemory_1 : ∀ w ∈ (wsX7_reachMemory_r1 : List Cond), w ∈ wsX7_applyAddress := List.forall_mem_cons.mpr ⟨List.mem_of_getElem? (i := 63) rfl, List.forall_mem_cons.mpr ⟨List.mem_of_getElem? (i := 64) rfl, List.forall_mem_cons.mpr ⟨List.mem_of_getElem? (i := 65) rfl, List.forall_mem_cons.mpr ⟨List.mem_of_getElem? (i := 9) rfl, List.forall_mem_cons.mpr ⟨List.mem_of_getElem? (i := 66) rfl, List.forall_mem_cons.mpr ⟨List.mem_of_getElem? (i := 35) rfl, List.forall_mem_cons.mpr ⟨List.mem_of_getElem? (i := 53) rfl, List.forall_mem_cons.mpr ⟨List.mem_of_getElem? (i := 49) rfl, List.forall_mem_cons.mpr ⟨List.mem_of_getElem? (i := 50) rfl, List.forall_mem_cons.mpr ⟨List.mem_of_getElem? (i := 51) rfl, List.forall_mem_cons.mpr ⟨List.mem_of_getElem? (i := 52) rfl, List.forall_mem_cons.mpr ⟨List.mem_of_getElem? (i := 67) rfl, List.forall_mem_cons.mpr ⟨List.mem_of_getElem? (i := 68) rfl, List.forall_mem_cons.mpr ⟨List.mem_of_getElem? (i := 69) rfl, List.forall_mem_cons.mpr ⟨List.mem_of_getElem? (i := 70) rfl, List.forall_mem_cons.mpr ⟨List.mem_of_getElem? (i := 71) rfl, List.forall_mem_cons.mpr ⟨List.mem_of_getElem? (i := 72) rfl, List.forall_mem_cons.mpr ⟨List.mem_of_getElem? (i := 73) rfl, List.forall_mem_cons.mpr ⟨List.mem_of_getElem? (i := 74) rfl, List.forall_mem_cons.mpr ⟨List.mem_of_getElem? (i := 75) rfl, List.forall_mem_cons.mpr ⟨List.mem_of_getElem? (i := 54) rfl, List.forall_mem_cons.mpr ⟨List.mem_of_getElem? (i := 55) rfl, List.forall_mem_cons.mpr ⟨List.mem_of_getElem? (i := 56) rfl, List.forall_mem_cons.mpr ⟨List.mem_of_getElem? (i := 15) rfl, fun _ h => nomatch h⟩⟩⟩⟩⟩⟩⟩⟩⟩⟩⟩⟩⟩⟩⟩⟩⟩⟩⟩⟩⟩⟩⟩⟩
set_option maxRecDepth 20000 in
theorem ggX7_applyAddress_X7_reachMemory_2 : ∀ w ∈ (wsX7_reachMemory_r2 : List Cond), w ∈ wsX7_applyAddress := List.forall_mem_cons.mpr ⟨List.mem_of_getElem? (i := 57) rfl, List.forall_mem_cons.mpr ⟨List.mem_of_getElem? (i := 17) rfl, List.forall_mem_cons.mpr ⟨List.mem_of_getElem? (i := 58) rfl, List.forall_mem_cons.mpr ⟨List.mem_of_getElem? (i := 59) rfl, List.forall_mem_cons.mpr ⟨List.mem_of_getElem? (i := 76) rfl, List.forall_mem_cons.mpr ⟨List.mem_of_getElem? (i := 77) rfl, List.forall_mem_cons.mpr ⟨List.mem_of_getElem? (i := 78) rfl, List.forall_mem_cons.mpr ⟨List.mem_of_getElem? (i := 79) rfl, List.forall_mem_cons.mpr ⟨List.mem_of_getElem? (i := 22) rfl, List.forall_mem_cons.mpr ⟨List.mem_of_getElem? (i := 23) rfl, List.forall_mem_cons.mpr ⟨List.mem_of_getElem? (i := 24) rfl, List.forall_mem_cons.mpr ⟨List.mem_of_getElem? (i := 25) rfl, List.forall_mem_cons.mpr ⟨List.mem_of_getElem? (i := 80) rfl, List.forall_mem_cons.mpr ⟨List.mem_of_getElem? (i := 81) rfl, List.forall_mem_cons.mpr ⟨List.mem_of_getElem? (i := 82) rfl, List.forall_mem_cons.mpr ⟨List.mem_of_getElem? (i := 83) rfl, List.forall_mem_cons.mpr ⟨List.mem_of_getElem? (i := 84) rfl, fun _ h => nomatch h⟩⟩⟩⟩⟩⟩⟩⟩⟩⟩⟩⟩⟩⟩⟩⟩⟩
set_option maxRecDepth 20000 in
theorem ggX7_applyAddress_X7_reachMemory_3 : ∀ w ∈ wsX10, w ∈ wsX7_applyAddress := fun w h => List.mem_cons_of_mem _ (List.mem_append_left _ (List.mem_append_left _ (List.mem_append_right _ (h))))
set_option maxRecDepth 20000 in
theorem ggX7_applyAddress_X7_reachMemory_4 : ∀ w ∈ wsX30, w ∈ wsX7_applyAddress := fun w h => List.mem_cons_of_mem _ (List.mem_append_right _ (h))
set_option maxRecDepth 20000 in
theorem ggX7_applyAddress_X7_reachMemory_5 : ∀ w ∈ wsX60, w ∈ wsX7_applyAddress := fun w h => List.mem_cons_of_mem _ (List.mem_append_left _ (List.mem_append_right _ (h)))
theorem ggX7_applyAddress_X7_reachMemory_m : ∀ w ∈ wsX7_reachMemory, w ∈ wsX7_applyAddress := fun w h => (List.mem_cons.mp h).elim (fun e => by rw [e]; exact List.mem_of_getElem? (i := 62) rfl) (fun h => (List.mem_append.mp h).elim (fun h => (List.mem_append.mp h).elim (fun h => (List.mem_append.mp h).elim (fun h => (List.mem_append.mp h).elim (fun h => ggX7_applyAddress_X7_reachMemory_1 w h) (fun h => ggX7_applyAddress_X7_reachMemory_2 w h)) (fun h => ggX7_applyAddress_X7_reachMemory_3 w h)) (fun h => ggX7_applyAddress_X7_reachMemory_4 w h)) (fun h => ggX7_applyAddress_X7_reachMemory_5 w h))
set_option maxRecDepth 20000 in
theorem ggX7_applyAddress_X7_reachMemory : GoodIn wsX7_applyAddress wsX7_reachMemory := goodIn_sub ggX7_applyAddress_X7_reachMemory_m (by decide +kernel)
set_option maxRecDepth 20000 in
theorem ggX7_applyAddress_X4_extended_1 : ∀ w ∈ ([.constantLong RX4 23 (1152921504606584832), .methodLink RX4 19 yX4_isShortNegative, .static yX4_isShortNegative, .initialized RX4, .code yX4_isShortNegative cX4_isShortNegative 2 (some .boolean), .constantLong RX4 15 (131071)] : List Cond), w ∈ wsX7_applyAddress := List.forall_mem_cons.mpr ⟨List.mem_of_getElem? (i := 88) rfl, List.forall_mem_cons.mpr ⟨List.mem_of_getElem? (i := 89) rfl, List.forall_mem_cons.mpr ⟨List.mem_of_getElem? (i := 90) rfl, List.forall_mem_cons.mpr ⟨List.mem_of_getElem? (i := 43) rfl, List.forall_mem_cons.mpr ⟨List.mem_of_getElem? (i := 91) rfl, List.forall_mem_cons.mpr ⟨List.mem_of_getElem? (i := 92) rfl, fun _ h => nomatch h⟩⟩⟩⟩⟩⟩
theorem ggX7_applyAddress_X4_extended_m : ∀ w ∈ wsX4_extended, w ∈ wsX7_applyAddress := fun w h => (List.mem_cons.mp h).elim (fun e => by rw [e]; exact List.mem_of_getElem? (i := 87) rfl) (fun h => ggX7_applyAddress_X4_extended_1 w h)
set_option maxRecDepth 20000 in
theorem ggX7_applyAddress_X4_extended : GoodIn wsX7_applyAddress wsX4_extended := goodIn_sub ggX7_applyAddress_X4_extended_m (by decide +kernel)
theorem dX7_applyAddress_0 : decode cX7_applyAddress 0 = .ok (.aload_n 0, 1) := by decide +kernel
theorem dX7_applyAddress_1 : decode cX7_applyAddress 1 = .ok (.aload_n 1, 1) := by decide +kernel
theorem dX7_applyAddress_2 : decode cX7_applyAddress 2 = .ok (.invokestatic 97, 3) := by decide +kernel
theorem dX7_applyAddress_5 : decode cX7_applyAddress 5 = .ok (.lstore_n 3, 1) := by decide +kernel
theorem dX7_applyAddress_6 : decode cX7_applyAddress 6 = .ok (.aload_n 0, 1) := by decide +kernel
theorem dX7_applyAddress_7 : decode cX7_applyAddress 7 = .ok (.invokevirtual 15, 3) := by decide +kernel
theorem dX7_applyAddress_10 : decode cX7_applyAddress 10 = .ok (.istore 5, 2) := by decide +kernel
theorem dX7_applyAddress_12 : decode cX7_applyAddress 12 = .ok (.aload_n 0, 1) := by decide +kernel
theorem dX7_applyAddress_13 : decode cX7_applyAddress 13 = .ok (.invokevirtual 18, 3) := by decide +kernel
theorem dX7_applyAddress_16 : decode cX7_applyAddress 16 = .ok (.iconst 3, 1) := by decide +kernel
theorem dX7_applyAddress_17 : decode cX7_applyAddress 17 = .ok (.ishr, 1) := by decide +kernel
theorem dX7_applyAddress_18 : decode cX7_applyAddress 18 = .ok (.lookupswitch 60 #[(5, 26), (6, 47)], 26) := by decide +kernel
theorem dX7_applyAddress_44 : decode cX7_applyAddress 44 = .ok (.aload_n 1, 1) := by decide +kernel
theorem dX7_applyAddress_45 : decode cX7_applyAddress 45 = .ok (.bipush 8, 2) := by decide +kernel
theorem dX7_applyAddress_47 : decode cX7_applyAddress 47 = .ok (.iload 5, 2) := by decide +kernel
theorem dX7_applyAddress_49 : decode cX7_applyAddress 49 = .ok (.iadd, 1) := by decide +kernel
theorem dX7_applyAddress_50 : decode cX7_applyAddress 50 = .ok (.lload_n 3, 1) := by decide +kernel
theorem dX7_applyAddress_51 : decode cX7_applyAddress 51 = .ok (.invokevirtual 39, 3) := by decide +kernel
theorem dX7_applyAddress_54 : decode cX7_applyAddress 54 = .ok (.aload_n 0, 1) := by decide +kernel
theorem dX7_applyAddress_55 : decode cX7_applyAddress 55 = .ok (.lload_n 3, 1) := by decide +kernel
theorem dX7_applyAddress_56 : decode cX7_applyAddress 56 = .ok (.l2i, 1) := by decide +kernel
theorem dX7_applyAddress_57 : decode cX7_applyAddress 57 = .ok (.aload_n 1, 1) := by decide +kernel
theorem dX7_applyAddress_58 : decode cX7_applyAddress 58 = .ok (.aload_n 2, 1) := by decide +kernel
theorem dX7_applyAddress_59 : decode cX7_applyAddress 59 = .ok (.invokestatic 100, 3) := by decide +kernel
theorem dX7_applyAddress_62 : decode cX7_applyAddress 62 = .ok (.goto 26, 3) := by decide +kernel
theorem dX7_applyAddress_65 : decode cX7_applyAddress 65 = .ok (.aload_n 1, 1) := by decide +kernel
theorem dX7_applyAddress_66 : decode cX7_applyAddress 66 = .ok (.bipush 16, 2) := by decide +kernel
theorem dX7_applyAddress_68 : decode cX7_applyAddress 68 = .ok (.iload 5, 2) := by decide +kernel
theorem dX7_applyAddress_70 : decode cX7_applyAddress 70 = .ok (.iadd, 1) := by decide +kernel
theorem dX7_applyAddress_71 : decode cX7_applyAddress 71 = .ok (.lload_n 3, 1) := by decide +kernel
theorem dX7_applyAddress_72 : decode cX7_applyAddress 72 = .ok (.invokevirtual 39, 3) := by decide +kernel
theorem dX7_applyAddress_75 : decode cX7_applyAddress 75 = .ok (.goto 13, 3) := by decide +kernel
theorem dX7_applyAddress_78 : decode cX7_applyAddress 78 = .ok (.aload_n 1, 1) := by decide +kernel
theorem dX7_applyAddress_79 : decode cX7_applyAddress 79 = .ok (.iload 5, 2) := by decide +kernel
theorem dX7_applyAddress_81 : decode cX7_applyAddress 81 = .ok (.lload_n 3, 1) := by decide +kernel
theorem dX7_applyAddress_82 : decode cX7_applyAddress 82 = .ok (.invokestatic 104, 3) := by decide +kernel
theorem dX7_applyAddress_85 : decode cX7_applyAddress 85 = .ok (.invokevirtual 39, 3) := by decide +kernel
theorem dX7_applyAddress_88 : decode cX7_applyAddress 88 = .ok (.return_, 1) := by decide +kernel
set_option maxRecDepth 20000 in
theorem ggX7_reachMemory_X1_loads_1 : ∀ w ∈ ([.fieldLink RX1 25 "ScoreboardCore$Instruction" "op" "I", .fieldLink RX1 28 "ScoreboardCore$Instruction" "i" "I"] : List Cond), w ∈ wsX7_reachMemory := List.forall_mem_cons.mpr ⟨List.mem_of_getElem? (i := 6) rfl, List.forall_mem_cons.mpr ⟨List.mem_of_getElem? (i := 7) rfl, fun _ h => nomatch h⟩⟩
set_option maxRecDepth 20000 in
theorem ggX7_reachMemory_X1_loads_2 : ∀ w ∈ wsX10, w ∈ wsX7_reachMemory := fun w h => List.mem_cons_of_mem _ (List.mem_append_left _ (List.mem_append_left _ (List.mem_append_right _ (h))))
theorem ggX7_reachMemory_X1_loads_m : ∀ w ∈ wsX1_loads, w ∈ wsX7_reachMemory := fun w h => (List.mem_cons.mp h).elim (fun e => by rw [e]; exact List.mem_of_getElem? (i := 5) rfl) (fun h => (List.mem_append.mp h).elim (fun h => ggX7_reachMemory_X1_loads_1 w h) (fun h => ggX7_reachMemory_X1_loads_2 w h))
set_option maxRecDepth 20000 in
theorem ggX7_reachMemory_X1_loads : GoodIn wsX7_reachMemory wsX1_loads := goodIn_sub ggX7_reachMemory_X1_loads_m (by decide +kernel)
set_option maxRecDepth 20000 in
theorem ggX7_reachMemory_X1_i_1 : ∀ w ∈ ([.fieldLink RX1 28 "ScoreboardCore$Instruction" "i" "I"] : List Cond), w ∈ wsX7_reachMemory := List.forall_mem_cons.mpr ⟨List.mem_of_getElem? (i := 7) rfl, fun _ h => nomatch h⟩
set_option maxRecDepth 20000 in
theorem ggX7_reachMemory_X1_i_2 : ∀ w ∈ wsX10, w ∈ wsX7_reachMemory := fun w h => List.mem_cons_of_mem _ (List.mem_append_left _ (List.mem_append_left _ (List.mem_append_right _ (h))))
theorem ggX7_reachMemory_X1_i_m : ∀ w ∈ wsX1_i, w ∈ wsX7_reachMemory := fun w h => (List.mem_cons.mp h).elim (fun e => by rw [e]; exact List.mem_of_getElem? (i := 11) rfl) (fun h => (List.mem_append.mp h).elim (fun h => ggX7_reachMemory_X1_i_1 w h) (fun h => ggX7_reachMemory_X1_i_2 w h))
set_option maxRecDepth 20000 in
theorem ggX7_reachMemory_X1_i : GoodIn wsX7_reachMemory wsX1_i := goodIn_sub ggX7_reachMemory_X1_i_m (by decide +kernel)
set_option maxRecDepth 20000 in
theorem ggX7_reachMemory_X3_load_1 : ∀ w ∈ ([.fieldLink RX3 9 "ScoreboardCore$Memory" "words" "[J", .methodLink RX3 18 yX3_holds, .static yX3_holds, .initialized RX3, .code yX3_holds cX3_holds 1 (some .boolean)] : List Cond), w ∈ wsX7_reachMemory := List.forall_mem_cons.mpr ⟨List.mem_of_getElem? (i := 17) rfl, List.forall_mem_cons.mpr ⟨List.mem_of_getElem? (i := 18) rfl, List.forall_mem_cons.mpr ⟨List.mem_of_getElem? (i := 19) rfl, List.forall_mem_cons.mpr ⟨List.mem_of_getElem? (i := 15) rfl, List.forall_mem_cons.mpr ⟨List.mem_of_getElem? (i := 20) rfl, fun _ h => nomatch h⟩⟩⟩⟩⟩
set_option maxRecDepth 20000 in
theorem ggX7_reachMemory_X3_load_2 : ∀ w ∈ wsX30, w ∈ wsX7_reachMemory := fun w h => List.mem_cons_of_mem _ (List.mem_append_left _ (List.mem_append_right _ (h)))
theorem ggX7_reachMemory_X3_load_m : ∀ w ∈ wsX3_load, w ∈ wsX7_reachMemory := fun w h => (List.mem_cons.mp h).elim (fun e => by rw [e]; exact List.mem_of_getElem? (i := 16) rfl) (fun h => (List.mem_append.mp h).elim (fun h => ggX7_reachMemory_X3_load_1 w h) (fun h => ggX7_reachMemory_X3_load_2 w h))
set_option maxRecDepth 20000 in
theorem ggX7_reachMemory_X3_load : GoodIn wsX7_reachMemory wsX3_load := goodIn_sub ggX7_reachMemory_X3_load_m (by decide +kernel)
set_option maxRecDepth 20000 in
theorem ggX7_reachMemory_X6_set_1 : ∀ w ∈ ([.fieldLink RX6 9 "ScoreboardCore$Registers" "values" "[J", .constantLong RX6 15 (1152921504606846975), .constantLong RX6 17 (262143)] : List Cond), w ∈ wsX7_reachMemory := List.forall_mem_cons.mpr ⟨List.mem_of_getElem? (i := 26) rfl, List.forall_mem_cons.mpr ⟨List.mem_of_getElem? (i := 27) rfl, List.forall_mem_cons.mpr ⟨List.mem_of_getElem? (i := 28) rfl, fun _ h => nomatch h⟩⟩⟩
set_option maxRecDepth 20000 in
theorem ggX7_reachMemory_X6_set_2 : ∀ w ∈ wsX60, w ∈ wsX7_reachMemory := fun w h => List.mem_cons_of_mem _ (List.mem_append_right _ (h))
theorem ggX7_reachMemory_X6_set_m : ∀ w ∈ wsX6_set, w ∈ wsX7_reachMemory := fun w h => (List.mem_cons.mp h).elim (fun e => by rw [e]; exact List.mem_of_getElem? (i := 25) rfl) (fun h => (List.mem_append.mp h).elim (fun h => ggX7_reachMemory_X6_set_1 w h) (fun h => ggX7_reachMemory_X6_set_2 w h))
set_option maxRecDepth 20000 in
theorem ggX7_reachMemory_X6_set : GoodIn wsX7_reachMemory wsX6_set := goodIn_sub ggX7_reachMemory_X6_set_m (by decide +kernel)
set_option maxRecDepth 20000 in
theorem ggX7_reachMemory_X1_stores_1 : ∀ w ∈ ([.fieldLink RX1 25 "ScoreboardCore$Instruction" "op" "I", .fieldLink RX1 28 "ScoreboardCore$Instruction" "i" "I"] : List Cond), w ∈ wsX7_reachMemory := List.forall_mem_cons.mpr ⟨List.mem_of_getElem? (i := 6) rfl, List.forall_mem_cons.mpr ⟨List.mem_of_getElem? (i := 7) rfl, fun _ h => nomatch h⟩⟩
set_option maxRecDepth 20000 in
theorem ggX7_reachMemory_X1_stores_2 : ∀ w ∈ wsX10, w ∈ wsX7_reachMemory := fun w h => List.mem_cons_of_mem _ (List.mem_append_left _ (List.mem_append_left _ (List.mem_append_right _ (h))))
theorem ggX7_reachMemory_X1_stores_m : ∀ w ∈ wsX1_stores, w ∈ wsX7_reachMemory := fun w h => (List.mem_cons.mp h).elim (fun e => by rw [e]; exact List.mem_of_getElem? (i := 32) rfl) (fun h => (List.mem_append.mp h).elim (fun h => ggX7_reachMemory_X1_stores_1 w h) (fun h => ggX7_reachMemory_X1_stores_2 w h))
set_option maxRecDepth 20000 in
theorem ggX7_reachMemory_X1_stores : GoodIn wsX7_reachMemory wsX1_stores := goodIn_sub ggX7_reachMemory_X1_stores_m (by decide +kernel)
set_option maxRecDepth 20000 in
theorem ggX7_reachMemory_X6_x_1 : ∀ w ∈ ([.fieldLink RX6 9 "ScoreboardCore$Registers" "values" "[J"] : List Cond), w ∈ wsX7_reachMemory := List.forall_mem_cons.mpr ⟨List.mem_of_getElem? (i := 26) rfl, fun _ h => nomatch h⟩
set_option maxRecDepth 20000 in
theorem ggX7_reachMemory_X6_x_2 : ∀ w ∈ wsX60, w ∈ wsX7_reachMemory := fun w h => List.mem_cons_of_mem _ (List.mem_append_right _ (h))
theorem ggX7_reachMemory_X6_x_m : ∀ w ∈ wsX6_x, w ∈ wsX7_reachMemory := fun w h => (List.mem_cons.mp h).elim (fun e => by rw [e]; exact List.mem_of_getElem? (i := 36) rfl) (fun h => (List.mem_append.mp h).elim (fun h => ggX7_reachMemory_X6_x_1 w h) (fun h => ggX7_reachMemory_X6_x_2 w h))
set_option maxRecDepth 20000 in
theorem ggX7_reachMemory_X6_x : GoodIn wsX7_reachMemory wsX6_x := goodIn_sub ggX7_reachMemory_X6_x_m (by decide +kernel)
set_option maxRecDepth 20000 in
theorem ggX7_reachMemory_X3_store_1 : ∀ w ∈ ([.fieldLink RX3 9 "ScoreboardCore$Memory" "words" "[J", .constantLong RX3 22 (1152921504606846975), .methodLink RX3 18 yX3_holds, .static yX3_holds, .initialized RX3, .code yX3_holds cX3_holds 1 (some .boolean)] : List Cond), w ∈ wsX7_reachMemory := List.forall_mem_cons.mpr ⟨List.mem_of_getElem? (i := 17) rfl, List.forall_mem_cons.mpr ⟨List.mem_of_getElem? (i := 41) rfl, List.forall_mem_cons.mpr ⟨List.mem_of_getElem? (i := 18) rfl, List.forall_mem_cons.mpr ⟨List.mem_of_getElem? (i := 19) rfl, List.forall_mem_cons.mpr ⟨List.mem_of_getElem? (i := 15) rfl, List.forall_mem_cons.mpr ⟨List.mem_of_getElem? (i := 20) rfl, fun _ h => nomatch h⟩⟩⟩⟩⟩⟩
set_option maxRecDepth 20000 in
theorem ggX7_reachMemory_X3_store_2 : ∀ w ∈ wsX30, w ∈ wsX7_reachMemory := fun w h => List.mem_cons_of_mem _ (List.mem_append_left _ (List.mem_append_right _ (h)))
theorem ggX7_reachMemory_X3_store_m : ∀ w ∈ wsX3_store, w ∈ wsX7_reachMemory := fun w h => (List.mem_cons.mp h).elim (fun e => by rw [e]; exact List.mem_of_getElem? (i := 40) rfl) (fun h => (List.mem_append.mp h).elim (fun h => ggX7_reachMemory_X3_store_1 w h) (fun h => ggX7_reachMemory_X3_store_2 w h))
set_option maxRecDepth 20000 in
theorem ggX7_reachMemory_X3_store : GoodIn wsX7_reachMemory wsX3_store := goodIn_sub ggX7_reachMemory_X3_store_m (by decide +kernel)
theorem dX7_reachMemory_0 : decode cX7_reachMemory 0 = .ok (.aload_n 0, 1) := by decide +kernel
theorem dX7_reachMemory_1 : decode cX7_reachMemory 1 = .ok (.invokevirtual 108, 3) := by decide +kernel
theorem dX7_reachMemory_4 : decode cX7_reachMemory 4 = .ok (.ifCond .eq 19, 3) := by decide +kernel
theorem dX7_reachMemory_7 : decode cX7_reachMemory 7 = .ok (.aload_n 2, 1) := by decide +kernel
theorem dX7_reachMemory_8 : decode cX7_reachMemory 8 = .ok (.aload_n 0, 1) := by decide +kernel
theorem dX7_reachMemory_9 : decode cX7_reachMemory 9 = .ok (.invokevirtual 15, 3) := by decide +kernel
theorem dX7_reachMemory_12 : decode cX7_reachMemory 12 = .ok (.aload_n 3, 1) := by decide +kernel
theorem dX7_reachMemory_13 : decode cX7_reachMemory 13 = .ok (.iload_n 1, 1) := by decide +kernel
theorem dX7_reachMemory_14 : decode cX7_reachMemory 14 = .ok (.invokevirtual 112, 3) := by decide +kernel
theorem dX7_reachMemory_17 : decode cX7_reachMemory 17 = .ok (.invokevirtual 39, 3) := by decide +kernel
theorem dX7_reachMemory_20 : decode cX7_reachMemory 20 = .ok (.goto 23, 3) := by decide +kernel
theorem dX7_reachMemory_23 : decode cX7_reachMemory 23 = .ok (.aload_n 0, 1) := by decide +kernel
theorem dX7_reachMemory_24 : decode cX7_reachMemory 24 = .ok (.invokevirtual 117, 3) := by decide +kernel
theorem dX7_reachMemory_27 : decode cX7_reachMemory 27 = .ok (.ifCond .eq 16, 3) := by decide +kernel
theorem dX7_reachMemory_30 : decode cX7_reachMemory 30 = .ok (.aload_n 3, 1) := by decide +kernel
theorem dX7_reachMemory_31 : decode cX7_reachMemory 31 = .ok (.iload_n 1, 1) := by decide +kernel
theorem dX7_reachMemory_32 : decode cX7_reachMemory 32 = .ok (.aload_n 2, 1) := by decide +kernel
theorem dX7_reachMemory_33 : decode cX7_reachMemory 33 = .ok (.aload_n 0, 1) := by decide +kernel
theorem dX7_reachMemory_34 : decode cX7_reachMemory 34 = .ok (.invokevirtual 15, 3) := by decide +kernel
theorem dX7_reachMemory_37 : decode cX7_reachMemory 37 = .ok (.invokevirtual 24, 3) := by decide +kernel
theorem dX7_reachMemory_40 : decode cX7_reachMemory 40 = .ok (.invokevirtual 120, 3) := by decide +kernel
theorem dX7_reachMemory_43 : decode cX7_reachMemory 43 = .ok (.return_, 1) := by decide +kernel
set_option maxRecDepth 20000 in
theorem ggX7_shortSum_X1_j_1 : ∀ w ∈ ([.fieldLink RX1 31 "ScoreboardCore$Instruction" "j" "I"] : List Cond), w ∈ wsX7_shortSum := List.forall_mem_cons.mpr ⟨List.mem_of_getElem? (i := 7) rfl, fun _ h => nomatch h⟩
set_option maxRecDepth 20000 in
theorem ggX7_shortSum_X1_j_2 : ∀ w ∈ wsX10, w ∈ wsX7_shortSum := fun w h => List.mem_cons_of_mem _ (List.mem_append_left _ (List.mem_append_right _ (h)))
theorem ggX7_shortSum_X1_j_m : ∀ w ∈ wsX1_j, w ∈ wsX7_shortSum := fun w h => (List.mem_cons.mp h).elim (fun e => by rw [e]; exact List.mem_of_getElem? (i := 6) rfl) (fun h => (List.mem_append.mp h).elim (fun h => ggX7_shortSum_X1_j_1 w h) (fun h => ggX7_shortSum_X1_j_2 w h))
set_option maxRecDepth 20000 in
theorem ggX7_shortSum_X1_j : GoodIn wsX7_shortSum wsX1_j := goodIn_sub ggX7_shortSum_X1_j_m (by decide +kernel)
set_option maxRecDepth 20000 in
theorem ggX7_shortSum_X6_a_1 : ∀ w ∈ ([.fieldLink RX6 9 "ScoreboardCore$Registers" "values" "[J"] : List Cond), w ∈ wsX7_shortSum := List.forall_mem_cons.mpr ⟨List.mem_of_getElem? (i := 13) rfl, fun _ h => nomatch h⟩
set_option maxRecDepth 20000 in
theorem ggX7_shortSum_X6_a_2 : ∀ w ∈ wsX60, w ∈ wsX7_shortSum := fun w h => List.mem_cons_of_mem _ (List.mem_append_right _ (h))
theorem ggX7_shortSum_X6_a_m : ∀ w ∈ wsX6_a, w ∈ wsX7_shortSum := fun w h => (List.mem_cons.mp h).elim (fun e => by rw [e]; exact List.mem_of_getElem? (i := 12) rfl) (fun h => (List.mem_append.mp h).elim (fun h => ggX7_shortSum_X6_a_1 w h) (fun h => ggX7_shortSum_X6_a_2 w h))
set_option maxRecDepth 20000 in
theorem ggX7_shortSum_X6_a : GoodIn wsX7_shortSum wsX6_a := goodIn_sub ggX7_shortSum_X6_a_m (by decide +kernel)
set_option maxRecDepth 20000 in
theorem ggX7_shortSum_X6_b_1 : ∀ w ∈ ([.fieldLink RX6 9 "ScoreboardCore$Registers" "values" "[J"] : List Cond), w ∈ wsX7_shortSum := List.forall_mem_cons.mpr ⟨List.mem_of_getElem? (i := 13) rfl, fun _ h => nomatch h⟩
set_option maxRecDepth 20000 in
theorem ggX7_shortSum_X6_b_2 : ∀ w ∈ wsX60, w ∈ wsX7_shortSum := fun w h => List.mem_cons_of_mem _ (List.mem_append_right _ (h))
theorem ggX7_shortSum_X6_b_m : ∀ w ∈ wsX6_b, w ∈ wsX7_shortSum := fun w h => (List.mem_cons.mp h).elim (fun e => by rw [e]; exact List.mem_of_getElem? (i := 17) rfl) (fun h => (List.mem_append.mp h).elim (fun h => ggX7_shortSum_X6_b_1 w h) (fun h => ggX7_shortSum_X6_b_2 w h))
set_option maxRecDepth 20000 in
theorem ggX7_shortSum_X6_b : GoodIn wsX7_shortSum wsX6_b := goodIn_sub ggX7_shortSum_X6_b_m (by decide +kernel)
set_option maxRecDepth 20000 in
theorem ggX7_shortSum_X6_x_1 : ∀ w ∈ ([.fieldLink RX6 9 "ScoreboardCore$Registers" "values" "[J"] : List Cond), w ∈ wsX7_shortSum := List.forall_mem_cons.mpr ⟨List.mem_of_getElem? (i := 13) rfl, fun _ h => nomatch h⟩
set_option maxRecDepth 20000 in
theorem ggX7_shortSum_X6_x_2 : ∀ w ∈ wsX60, w ∈ wsX7_shortSum := fun w h => List.mem_cons_of_mem _ (List.mem_append_right _ (h))
theorem ggX7_shortSum_X6_x_m : ∀ w ∈ wsX6_x, w ∈ wsX7_shortSum := fun w h => (List.mem_cons.mp h).elim (fun e => by rw [e]; exact List.mem_of_getElem? (i := 21) rfl) (fun h => (List.mem_append.mp h).elim (fun h => ggX7_shortSum_X6_x_1 w h) (fun h => ggX7_shortSum_X6_x_2 w h))
set_option maxRecDepth 20000 in
theorem ggX7_shortSum_X6_x : GoodIn wsX7_shortSum wsX6_x := goodIn_sub ggX7_shortSum_X6_x_m (by decide +kernel)
set_option maxRecDepth 20000 in
theorem ggX7_shortSum_X1_k_1 : ∀ w ∈ ([.fieldLink RX1 34 "ScoreboardCore$Instruction" "k" "I"] : List Cond), w ∈ wsX7_shortSum := List.forall_mem_cons.mpr ⟨List.mem_of_getElem? (i := 26) rfl, fun _ h => nomatch h⟩
set_option maxRecDepth 20000 in
theorem ggX7_shortSum_X1_k_2 : ∀ w ∈ wsX10, w ∈ wsX7_shortSum := fun w h => List.mem_cons_of_mem _ (List.mem_append_left _ (List.mem_append_right _ (h)))
theorem ggX7_shortSum_X1_k_m : ∀ w ∈ wsX1_k, w ∈ wsX7_shortSum := fun w h => (List.mem_cons.mp h).elim (fun e => by rw [e]; exact List.mem_of_getElem? (i := 25) rfl) (fun h => (List.mem_append.mp h).elim (fun h => ggX7_shortSum_X1_k_1 w h) (fun h => ggX7_shortSum_X1_k_2 w h))
set_option maxRecDepth 20000 in
theorem ggX7_shortSum_X1_k : GoodIn wsX7_shortSum wsX1_k := goodIn_sub ggX7_shortSum_X1_k_m (by decide +kernel)
set_option maxRecDepth 20000 in
theorem ggX7_shortSum_X1_op_1 : ∀ w ∈ ([.fieldLink RX1 25 "ScoreboardCore$Instruction" "op" "I"] : List Cond), w ∈ wsX7_shortSum := List.forall_mem_cons.mpr ⟨List.mem_of_getElem? (i := 31) rfl, fun _ h => nomatch h⟩
set_option maxRecDepth 20000 in
theorem ggX7_shortSum_X1_op_2 : ∀ w ∈ wsX10, w ∈ wsX7_shortSum := fun w h => List.mem_cons_of_mem _ (List.mem_append_left _ (List.mem_append_right _ (h)))
theorem ggX7_shortSum_X1_op_m : ∀ w ∈ wsX1_op, w ∈ wsX7_shortSum := fun w h => (List.mem_cons.mp h).elim (fun e => by rw [e]; exact List.mem_of_getElem? (i := 30) rfl) (fun h => (List.mem_append.mp h).elim (fun h => ggX7_shortSum_X1_op_1 w h) (fun h => ggX7_shortSum_X1_op_2 w h))
set_option maxRecDepth 20000 in
theorem ggX7_shortSum_X1_op : GoodIn wsX7_shortSum wsX1_op := goodIn_sub ggX7_shortSum_X1_op_m (by decide +kernel)
set_option maxRecDepth 20000 in
theorem ggX7_shortSum_X1_constant_1 : ∀ w ∈ ([.fieldLink RX1 38 "ScoreboardCore$Instruction" "constant" "I"] : List Cond), w ∈ wsX7_shortSum := List.forall_mem_cons.mpr ⟨List.mem_of_getElem? (i := 36) rfl, fun _ h => nomatch h⟩
set_option maxRecDepth 20000 in
theorem ggX7_shortSum_X1_constant_2 : ∀ w ∈ wsX10, w ∈ wsX7_shortSum := fun w h => List.mem_cons_of_mem _ (List.mem_append_left _ (List.mem_append_right _ (h)))
theorem ggX7_shortSum_X1_constant_m : ∀ w ∈ wsX1_constant, w ∈ wsX7_shortSum := fun w h => (List.mem_cons.mp h).elim (fun e => by rw [e]; exact List.mem_of_getElem? (i := 35) rfl) (fun h => (List.mem_append.mp h).elim (fun h => ggX7_shortSum_X1_constant_1 w h) (fun h => ggX7_shortSum_X1_constant_2 w h))
set_option maxRecDepth 20000 in
theorem ggX7_shortSum_X1_constant : GoodIn wsX7_shortSum wsX1_constant := goodIn_sub ggX7_shortSum_X1_constant_m (by decide +kernel)
set_option maxRecDepth 20000 in
theorem ggX7_shortSum_X4_sum_1 : ∀ w ∈ ([] : List Cond), w ∈ wsX7_shortSum := fun _ h => nomatch h
theorem ggX7_shortSum_X4_sum_m : ∀ w ∈ wsX4_sum, w ∈ wsX7_shortSum := fun w h => (List.mem_cons.mp h).elim (fun e => by rw [e]; exact List.mem_of_getElem? (i := 40) rfl) (fun h => ggX7_shortSum_X4_sum_1 w h)
set_option maxRecDepth 20000 in
theorem ggX7_shortSum_X4_sum : GoodIn wsX7_shortSum wsX4_sum := goodIn_sub ggX7_shortSum_X4_sum_m (by decide +kernel)
set_option maxRecDepth 20000 in
theorem ggX7_shortSum_X4_difference_1 : ∀ w ∈ ([.methodLink RX4 9 yX4_sum, .static yX4_sum, .initialized RX4, .code yX4_sum cX4_sum 9 (some .long)] : List Cond), w ∈ wsX7_shortSum := List.forall_mem_cons.mpr ⟨List.mem_of_getElem? (i := 44) rfl, List.forall_mem_cons.mpr ⟨List.mem_of_getElem? (i := 38) rfl, List.forall_mem_cons.mpr ⟨List.mem_of_getElem? (i := 39) rfl, List.forall_mem_cons.mpr ⟨List.mem_of_getElem? (i := 40) rfl, fun _ h => nomatch h⟩⟩⟩⟩
theorem ggX7_shortSum_X4_difference_m : ∀ w ∈ wsX4_difference, w ∈ wsX7_shortSum := fun w h => (List.mem_cons.mp h).elim (fun e => by rw [e]; exact List.mem_of_getElem? (i := 43) rfl) (fun h => ggX7_shortSum_X4_difference_1 w h)
set_option maxRecDepth 20000 in
theorem ggX7_shortSum_X4_difference : GoodIn wsX7_shortSum wsX4_difference := goodIn_sub ggX7_shortSum_X4_difference_m (by decide +kernel)
theorem dX7_shortSum_0 : decode cX7_shortSum 0 = .ok (.aload_n 1, 1) := by decide +kernel
theorem dX7_shortSum_1 : decode cX7_shortSum 1 = .ok (.aload_n 0, 1) := by decide +kernel
theorem dX7_shortSum_2 : decode cX7_shortSum 2 = .ok (.invokevirtual 21, 3) := by decide +kernel
theorem dX7_shortSum_5 : decode cX7_shortSum 5 = .ok (.invokevirtual 123, 3) := by decide +kernel
theorem dX7_shortSum_8 : decode cX7_shortSum 8 = .ok (.lstore_n 2, 1) := by decide +kernel
theorem dX7_shortSum_9 : decode cX7_shortSum 9 = .ok (.aload_n 1, 1) := by decide +kernel
theorem dX7_shortSum_10 : decode cX7_shortSum 10 = .ok (.aload_n 0, 1) := by decide +kernel
theorem dX7_shortSum_11 : decode cX7_shortSum 11 = .ok (.invokevirtual 21, 3) := by decide +kernel
theorem dX7_shortSum_14 : decode cX7_shortSum 14 = .ok (.invokevirtual 74, 3) := by decide +kernel
theorem dX7_shortSum_17 : decode cX7_shortSum 17 = .ok (.lstore 4, 2) := by decide +kernel
theorem dX7_shortSum_19 : decode cX7_shortSum 19 = .ok (.aload_n 1, 1) := by decide +kernel
theorem dX7_shortSum_20 : decode cX7_shortSum 20 = .ok (.aload_n 0, 1) := by decide +kernel
theorem dX7_shortSum_21 : decode cX7_shortSum 21 = .ok (.invokevirtual 21, 3) := by decide +kernel
theorem dX7_shortSum_24 : decode cX7_shortSum 24 = .ok (.invokevirtual 24, 3) := by decide +kernel
theorem dX7_shortSum_27 : decode cX7_shortSum 27 = .ok (.ldc2_w 126, 3) := by decide +kernel
theorem dX7_shortSum_30 : decode cX7_shortSum 30 = .ok (.land, 1) := by decide +kernel
theorem dX7_shortSum_31 : decode cX7_shortSum 31 = .ok (.lstore 6, 2) := by decide +kernel
theorem dX7_shortSum_33 : decode cX7_shortSum 33 = .ok (.aload_n 1, 1) := by decide +kernel
theorem dX7_shortSum_34 : decode cX7_shortSum 34 = .ok (.aload_n 0, 1) := by decide +kernel
theorem dX7_shortSum_35 : decode cX7_shortSum 35 = .ok (.invokevirtual 30, 3) := by decide +kernel
theorem dX7_shortSum_38 : decode cX7_shortSum 38 = .ok (.invokevirtual 74, 3) := by decide +kernel
theorem dX7_shortSum_41 : decode cX7_shortSum 41 = .ok (.lstore 8, 2) := by decide +kernel
theorem dX7_shortSum_43 : decode cX7_shortSum 43 = .ok (.aload_n 0, 1) := by decide +kernel
theorem dX7_shortSum_44 : decode cX7_shortSum 44 = .ok (.invokevirtual 18, 3) := by decide +kernel
theorem dX7_shortSum_47 : decode cX7_shortSum 47 = .ok (.bipush 7, 2) := by decide +kernel
theorem dX7_shortSum_49 : decode cX7_shortSum 49 = .ok (.iand, 1) := by decide +kernel
theorem dX7_shortSum_50 : decode cX7_shortSum 50 = .ok (.tableswitch 125 0 6 #[42, 55, 69, 83, 94, 104, 114], 42) := by decide +kernel
theorem dX7_shortSum_92 : decode cX7_shortSum 92 = .ok (.lload_n 2, 1) := by decide +kernel
theorem dX7_shortSum_93 : decode cX7_shortSum 93 = .ok (.aload_n 0, 1) := by decide +kernel
theorem dX7_shortSum_94 : decode cX7_shortSum 94 = .ok (.invokevirtual 128, 3) := by decide +kernel
theorem dX7_shortSum_97 : decode cX7_shortSum 97 = .ok (.i2l, 1) := by decide +kernel
theorem dX7_shortSum_98 : decode cX7_shortSum 98 = .ok (.ldc2_w 126, 3) := by decide +kernel
theorem dX7_shortSum_101 : decode cX7_shortSum 101 = .ok (.invokestatic 90, 3) := by decide +kernel
theorem dX7_shortSum_104 : decode cX7_shortSum 104 = .ok (.lreturn, 1) := by decide +kernel
theorem dX7_shortSum_105 : decode cX7_shortSum 105 = .ok (.lload 4, 2) := by decide +kernel
theorem dX7_shortSum_107 : decode cX7_shortSum 107 = .ok (.aload_n 0, 1) := by decide +kernel
theorem dX7_shortSum_108 : decode cX7_shortSum 108 = .ok (.invokevirtual 128, 3) := by decide +kernel
theorem dX7_shortSum_111 : decode cX7_shortSum 111 = .ok (.i2l, 1) := by decide +kernel
theorem dX7_shortSum_112 : decode cX7_shortSum 112 = .ok (.ldc2_w 126, 3) := by decide +kernel
theorem dX7_shortSum_115 : decode cX7_shortSum 115 = .ok (.invokestatic 90, 3) := by decide +kernel
theorem dX7_shortSum_118 : decode cX7_shortSum 118 = .ok (.lreturn, 1) := by decide +kernel
theorem dX7_shortSum_119 : decode cX7_shortSum 119 = .ok (.lload 6, 2) := by decide +kernel
theorem dX7_shortSum_121 : decode cX7_shortSum 121 = .ok (.aload_n 0, 1) := by decide +kernel
theorem dX7_shortSum_122 : decode cX7_shortSum 122 = .ok (.invokevirtual 128, 3) := by decide +kernel
theorem dX7_shortSum_125 : decode cX7_shortSum 125 = .ok (.i2l, 1) := by decide +kernel
theorem dX7_shortSum_126 : decode cX7_shortSum 126 = .ok (.ldc2_w 126, 3) := by decide +kernel
theorem dX7_shortSum_129 : decode cX7_shortSum 129 = .ok (.invokestatic 90, 3) := by decide +kernel
theorem dX7_shortSum_132 : decode cX7_shortSum 132 = .ok (.lreturn, 1) := by decide +kernel
theorem dX7_shortSum_133 : decode cX7_shortSum 133 = .ok (.lload 6, 2) := by decide +kernel
theorem dX7_shortSum_135 : decode cX7_shortSum 135 = .ok (.lload 8, 2) := by decide +kernel
theorem dX7_shortSum_137 : decode cX7_shortSum 137 = .ok (.ldc2_w 126, 3) := by decide +kernel
theorem dX7_shortSum_140 : decode cX7_shortSum 140 = .ok (.invokestatic 90, 3) := by decide +kernel
theorem dX7_shortSum_143 : decode cX7_shortSum 143 = .ok (.lreturn, 1) := by decide +kernel
theorem dX7_shortSum_144 : decode cX7_shortSum 144 = .ok (.lload_n 2, 1) := by decide +kernel
theorem dX7_shortSum_145 : decode cX7_shortSum 145 = .ok (.lload 8, 2) := by decide +kernel
theorem dX7_shortSum_147 : decode cX7_shortSum 147 = .ok (.ldc2_w 126, 3) := by decide +kernel
theorem dX7_shortSum_150 : decode cX7_shortSum 150 = .ok (.invokestatic 90, 3) := by decide +kernel
theorem dX7_shortSum_153 : decode cX7_shortSum 153 = .ok (.lreturn, 1) := by decide +kernel
theorem dX7_shortSum_154 : decode cX7_shortSum 154 = .ok (.lload_n 2, 1) := by decide +kernel
theorem dX7_shortSum_155 : decode cX7_shortSum 155 = .ok (.lload 8, 2) := by decide +kernel
theorem dX7_shortSum_157 : decode cX7_shortSum 157 = .ok (.ldc2_w 126, 3) := by decide +kernel
theorem dX7_shortSum_160 : decode cX7_shortSum 160 = .ok (.invokestatic 94, 3) := by decide +kernel
theorem dX7_shortSum_163 : decode cX7_shortSum 163 = .ok (.lreturn, 1) := by decide +kernel
theorem dX7_shortSum_164 : decode cX7_shortSum 164 = .ok (.lload 4, 2) := by decide +kernel
theorem dX7_shortSum_166 : decode cX7_shortSum 166 = .ok (.lload 8, 2) := by decide +kernel
theorem dX7_shortSum_168 : decode cX7_shortSum 168 = .ok (.ldc2_w 126, 3) := by decide +kernel
theorem dX7_shortSum_171 : decode cX7_shortSum 171 = .ok (.invokestatic 90, 3) := by decide +kernel
theorem dX7_shortSum_174 : decode cX7_shortSum 174 = .ok (.lreturn, 1) := by decide +kernel
theorem dX7_shortSum_175 : decode cX7_shortSum 175 = .ok (.lload 4, 2) := by decide +kernel
theorem dX7_shortSum_177 : decode cX7_shortSum 177 = .ok (.lload 8, 2) := by decide +kernel
theorem dX7_shortSum_179 : decode cX7_shortSum 179 = .ok (.ldc2_w 126, 3) := by decide +kernel
theorem dX7_shortSum_182 : decode cX7_shortSum 182 = .ok (.invokestatic 94, 3) := by decide +kernel
theorem dX7_shortSum_185 : decode cX7_shortSum 185 = .ok (.lreturn, 1) := by decide +kernel
set_option maxRecDepth 20000 in
theorem ggX8_init_X3_init_1 : ∀ w ∈ ([.methodLink RX3 3 objectInit, .instanceMethod objectInit, .code objectInit ⟨#[0xb1]⟩ 1 none, .arrayClass .long, .fieldLink RX3 9 "ScoreboardCore$Memory" "words" "[J", .fieldLink RX3 15 "ScoreboardCore$Memory" "program" "[J"] : List Cond), w ∈ wsX8_init := List.forall_mem_cons.mpr ⟨List.mem_of_getElem? (i := 25) rfl, List.forall_mem_cons.mpr ⟨List.mem_of_getElem? (i := 2) rfl, List.forall_mem_cons.mpr ⟨List.mem_of_getElem? (i := 3) rfl, List.forall_mem_cons.mpr ⟨List.mem_of_getElem? (i := 26) rfl, List.forall_mem_cons.mpr ⟨List.mem_of_getElem? (i := 27) rfl, List.forall_mem_cons.mpr ⟨List.mem_of_getElem? (i := 28) rfl, fun _ h => nomatch h⟩⟩⟩⟩⟩⟩
set_option maxRecDepth 20000 in
theorem ggX8_init_X3_init_2 : ∀ w ∈ wsX30, w ∈ wsX8_init := fun w h => List.mem_cons_of_mem _ (List.mem_append_left _ (List.mem_append_left _ (List.mem_append_left _ (List.mem_append_left _ (List.mem_append_left _ (List.mem_append_right _ (h)))))))
theorem ggX8_init_X3_init_m : ∀ w ∈ wsX3_init, w ∈ wsX8_init := fun w h => (List.mem_cons.mp h).elim (fun e => by rw [e]; exact List.mem_of_getElem? (i := 24) rfl) (fun h => (List.mem_append.mp h).elim (fun h => ggX8_init_X3_init_1 w h) (fun h => ggX8_init_X3_init_2 w h))
set_option maxRecDepth 20000 in
theorem ggX8_init_X3_init : GoodIn wsX8_init wsX3_init := goodIn_sub ggX8_init_X3_init_m (by decide +kernel)
set_option maxRecDepth 20000 in
theorem ggX8_init_X6_init_1 : ∀ w ∈ ([.methodLink RX6 3 objectInit, .instanceMethod objectInit, .code objectInit ⟨#[0xb1]⟩ 1 none, .arrayClass .long, .fieldLink RX6 9 "ScoreboardCore$Registers" "values" "[J"] : List Cond), w ∈ wsX8_init := List.forall_mem_cons.mpr ⟨List.mem_of_getElem? (i := 31) rfl, List.forall_mem_cons.mpr ⟨List.mem_of_getElem? (i := 2) rfl, List.forall_mem_cons.mpr ⟨List.mem_of_getElem? (i := 3) rfl, List.forall_mem_cons.mpr ⟨List.mem_of_getElem? (i := 26) rfl, List.forall_mem_cons.mpr ⟨List.mem_of_getElem? (i := 32) rfl, fun _ h => nomatch h⟩⟩⟩⟩⟩
set_option maxRecDepth 20000 in
theorem ggX8_init_X6_init_2 : ∀ w ∈ wsX60, w ∈ wsX8_init := fun w h => List.mem_cons_of_mem _ (List.mem_append_left _ (List.mem_append_left _ (List.mem_append_left _ (List.mem_append_right _ (h)))))
theorem ggX8_init_X6_init_m : ∀ w ∈ wsX6_init, w ∈ wsX8_init := fun w h => (List.mem_cons.mp h).elim (fun e => by rw [e]; exact List.mem_of_getElem? (i := 30) rfl) (fun h => (List.mem_append.mp h).elim (fun h => ggX8_init_X6_init_1 w h) (fun h => ggX8_init_X6_init_2 w h))
set_option maxRecDepth 20000 in
theorem ggX8_init_X6_init : GoodIn wsX8_init wsX6_init := goodIn_sub ggX8_init_X6_init_m (by decide +kernel)
set_option maxRecDepth 20000 in
theorem ggX8_init_X0_init_1 : ∀ w ∈ ([.methodLink RX0 3 objectInit, .instanceMethod objectInit, .code objectInit ⟨#[0xb1]⟩ 1 none, .arrayClass .int, .fieldLink RX0 11 "ScoreboardCore$Board" "doneCounts" "[I", .arrayClass .long, .fieldLink RX0 15 "ScoreboardCore$Board" "waitCounts" "[J", .fieldLink RX0 19 "ScoreboardCore$Board" "unitFreeFrom" "[I", .fieldLink RX0 22 "ScoreboardCore$Board" "registerFreeFrom" "[I", .fieldLink RX0 25 "ScoreboardCore$Board" "registerLastRead" "[I"] : List Cond), w ∈ wsX8_init := List.forall_mem_cons.mpr ⟨List.mem_of_getElem? (i := 35) rfl, List.forall_mem_cons.mpr ⟨List.mem_of_getElem? (i := 2) rfl, List.forall_mem_cons.mpr ⟨List.mem_of_getElem? (i := 3) rfl, List.forall_mem_cons.mpr ⟨List.mem_of_getElem? (i := 36) rfl, List.forall_mem_cons.mpr ⟨List.mem_of_getElem? (i := 37) rfl, List.forall_mem_cons.mpr ⟨List.mem_of_getElem? (i := 26) rfl, List.forall_mem_cons.mpr ⟨List.mem_of_getElem? (i := 38) rfl, List.forall_mem_cons.mpr ⟨List.mem_of_getElem? (i := 39) rfl, List.forall_mem_cons.mpr ⟨List.mem_of_getElem? (i := 40) rfl, List.forall_mem_cons.mpr ⟨List.mem_of_getElem? (i := 41) rfl, fun _ h => nomatch h⟩⟩⟩⟩⟩⟩⟩⟩⟩⟩
set_option maxRecDepth 20000 in
theorem ggX8_init_X0_init_2 : ∀ w ∈ wsX00, w ∈ wsX8_init := fun w h => List.mem_cons_of_mem _ (List.mem_append_left _ (List.mem_append_left _ (List.mem_append_right _ (h))))
theorem ggX8_init_X0_init_m : ∀ w ∈ wsX0_init, w ∈ wsX8_init := fun w h => (List.mem_cons.mp h).elim (fun e => by rw [e]; exact List.mem_of_getElem? (i := 34) rfl) (fun h => (List.mem_append.mp h).elim (fun h => ggX8_init_X0_init_1 w h) (fun h => ggX8_init_X0_init_2 w h))
set_option maxRecDepth 20000 in
theorem ggX8_init_X0_init : GoodIn wsX8_init wsX0_init := goodIn_sub ggX8_init_X0_init_m (by decide +kernel)
set_option maxRecDepth 20000 in
theorem ggX8_init_X1_init_1 : ∀ w ∈ ([.methodLink RX1 5 objectInit, .instanceMethod objectInit, .code objectInit ⟨#[0xb1]⟩ 1 none, .classLink RX1 11 RX5, .instantiable RX5 2, .initialized RX5, .fieldLink RX1 14 "ScoreboardCore$Instruction" "needs" "LScoreboardCore$RegisterList;", .fieldLink RX1 18 "ScoreboardCore$Instruction" "results" "LScoreboardCore$RegisterList;", .instanceMethod yX5_init, .code yX5_init cX5_init 1 none, .methodLink RX5 3 objectInit, .arrayClass .int, .fieldLink RX5 11 "ScoreboardCore$RegisterList" "numbers" "[I"] : List Cond), w ∈ wsX8_init := List.forall_mem_cons.mpr ⟨List.mem_of_getElem? (i := 44) rfl, List.forall_mem_cons.mpr ⟨List.mem_of_getElem? (i := 2) rfl, List.forall_mem_cons.mpr ⟨List.mem_of_getElem? (i := 3) rfl, List.forall_mem_cons.mpr ⟨List.mem_of_getElem? (i := 45) rfl, List.forall_mem_cons.mpr ⟨List.mem_of_getElem? (i := 46) rfl, List.forall_mem_cons.mpr ⟨List.mem_of_getElem? (i := 47) rfl, List.forall_mem_cons.mpr ⟨List.mem_of_getElem? (i := 48) rfl, List.forall_mem_cons.mpr ⟨List.mem_of_getElem? (i := 49) rfl, List.forall_mem_cons.mpr ⟨List.mem_of_getElem? (i := 50) rfl, List.forall_mem_cons.mpr ⟨List.mem_of_getElem? (i := 51) rfl, List.forall_mem_cons.mpr ⟨List.mem_of_getElem? (i := 52) rfl, List.forall_mem_cons.mpr ⟨List.mem_of_getElem? (i := 36) rfl, List.forall_mem_cons.mpr ⟨List.mem_of_getElem? (i := 53) rfl, fun _ h => nomatch h⟩⟩⟩⟩⟩⟩⟩⟩⟩⟩⟩⟩⟩
set_option maxRecDepth 20000 in
theorem ggX8_init_X1_init_2 : ∀ w ∈ wsX50, w ∈ wsX8_init := fun w h => List.mem_cons_of_mem _ (List.mem_append_right _ (h))
set_option maxRecDepth 20000 in
theorem ggX8_init_X1_init_3 : ∀ w ∈ wsX10, w ∈ wsX8_init := fun w h => List.mem_cons_of_mem _ (List.mem_append_left _ (List.mem_append_right _ (h)))
theorem ggX8_init_X1_init_m : ∀ w ∈ wsX1_init, w ∈ wsX8_init := fun w h => (List.mem_cons.mp h).elim (fun e => by rw [e]; exact List.mem_of_getElem? (i := 43) rfl) (fun h => (List.mem_append.mp h).elim (fun h => (List.mem_append.mp h).elim (fun h => ggX8_init_X1_init_1 w h) (fun h => ggX8_init_X1_init_2 w h)) (fun h => ggX8_init_X1_init_3 w h))
set_option maxRecDepth 20000 in
theorem ggX8_init_X1_init : GoodIn wsX8_init wsX1_init := goodIn_sub ggX8_init_X1_init_m (by decide +kernel)
theorem dX8_init_0 : decode cX8_init 0 = .ok (.aload_n 0, 1) := by decide +kernel
theorem dX8_init_1 : decode cX8_init 1 = .ok (.invokespecial 1, 3) := by decide +kernel
theorem dX8_init_4 : decode cX8_init 4 = .ok (.aload_n 0, 1) := by decide +kernel
theorem dX8_init_5 : decode cX8_init 5 = .ok (.new 7, 3) := by decide +kernel
theorem dX8_init_8 : decode cX8_init 8 = .ok (.dup, 1) := by decide +kernel
theorem dX8_init_9 : decode cX8_init 9 = .ok (.invokespecial 9, 3) := by decide +kernel
theorem dX8_init_12 : decode cX8_init 12 = .ok (.putfield 10, 3) := by decide +kernel
theorem dX8_init_15 : decode cX8_init 15 = .ok (.aload_n 0, 1) := by decide +kernel
theorem dX8_init_16 : decode cX8_init 16 = .ok (.new 16, 3) := by decide +kernel
theorem dX8_init_19 : decode cX8_init 19 = .ok (.dup, 1) := by decide +kernel
theorem dX8_init_20 : decode cX8_init 20 = .ok (.invokespecial 18, 3) := by decide +kernel
theorem dX8_init_23 : decode cX8_init 23 = .ok (.putfield 19, 3) := by decide +kernel
theorem dX8_init_26 : decode cX8_init 26 = .ok (.aload_n 0, 1) := by decide +kernel
theorem dX8_init_27 : decode cX8_init 27 = .ok (.new 23, 3) := by decide +kernel
theorem dX8_init_30 : decode cX8_init 30 = .ok (.dup, 1) := by decide +kernel
theorem dX8_init_31 : decode cX8_init 31 = .ok (.invokespecial 25, 3) := by decide +kernel
theorem dX8_init_34 : decode cX8_init 34 = .ok (.putfield 26, 3) := by decide +kernel
theorem dX8_init_37 : decode cX8_init 37 = .ok (.aload_n 0, 1) := by decide +kernel
theorem dX8_init_38 : decode cX8_init 38 = .ok (.new 30, 3) := by decide +kernel
theorem dX8_init_41 : decode cX8_init 41 = .ok (.dup, 1) := by decide +kernel
theorem dX8_init_42 : decode cX8_init 42 = .ok (.invokespecial 32, 3) := by decide +kernel
theorem dX8_init_45 : decode cX8_init 45 = .ok (.putfield 33, 3) := by decide +kernel
theorem dX8_init_48 : decode cX8_init 48 = .ok (.aload_n 0, 1) := by decide +kernel
theorem dX8_init_49 : decode cX8_init 49 = .ok (.iconst 0, 1) := by decide +kernel
theorem dX8_init_50 : decode cX8_init 50 = .ok (.putfield 37, 3) := by decide +kernel
theorem dX8_init_53 : decode cX8_init 53 = .ok (.aload_n 0, 1) := by decide +kernel
theorem dX8_init_54 : decode cX8_init 54 = .ok (.iconst 0, 1) := by decide +kernel
theorem dX8_init_55 : decode cX8_init 55 = .ok (.putfield 41, 3) := by decide +kernel
theorem dX8_init_58 : decode cX8_init 58 = .ok (.aload_n 0, 1) := by decide +kernel
theorem dX8_init_59 : decode cX8_init 59 = .ok (.iconst 3, 1) := by decide +kernel
theorem dX8_init_60 : decode cX8_init 60 = .ok (.putfield 44, 3) := by decide +kernel
theorem dX8_init_63 : decode cX8_init 63 = .ok (.return_, 1) := by decide +kernel
set_option maxRecDepth 20000 in
theorem ggX8_write_X3_holds_1 : ∀ w ∈ ([] : List Cond), w ∈ wsX8_write := fun _ h => nomatch h
theorem ggX8_write_X3_holds_m : ∀ w ∈ wsX3_holds, w ∈ wsX8_write := fun w h => (List.mem_cons.mp h).elim (fun e => by rw [e]; exact List.mem_of_getElem? (i := 7) rfl) (fun h => ggX8_write_X3_holds_1 w h)
set_option maxRecDepth 20000 in
theorem ggX8_write_X3_holds : GoodIn wsX8_write wsX3_holds := goodIn_sub ggX8_write_X3_holds_m (by decide +kernel)
set_option maxRecDepth 20000 in
theorem ggX8_write_X3_load_1 : ∀ w ∈ ([.fieldLink RX3 9 "ScoreboardCore$Memory" "words" "[J", .methodLink RX3 18 yX3_holds, .static yX3_holds, .initialized RX3, .code yX3_holds cX3_holds 1 (some .boolean)] : List Cond), w ∈ wsX8_write := List.forall_mem_cons.mpr ⟨List.mem_of_getElem? (i := 12) rfl, List.forall_mem_cons.mpr ⟨List.mem_of_getElem? (i := 13) rfl, List.forall_mem_cons.mpr ⟨List.mem_of_getElem? (i := 5) rfl, List.forall_mem_cons.mpr ⟨List.mem_of_getElem? (i := 6) rfl, List.forall_mem_cons.mpr ⟨List.mem_of_getElem? (i := 7) rfl, fun _ h => nomatch h⟩⟩⟩⟩⟩
set_option maxRecDepth 20000 in
theorem ggX8_write_X3_load_2 : ∀ w ∈ wsX30, w ∈ wsX8_write := fun w h => List.mem_cons_of_mem _ (List.mem_append_left _ (List.mem_append_right _ (h)))
theorem ggX8_write_X3_load_m : ∀ w ∈ wsX3_load, w ∈ wsX8_write := fun w h => (List.mem_cons.mp h).elim (fun e => by rw [e]; exact List.mem_of_getElem? (i := 11) rfl) (fun h => (List.mem_append.mp h).elim (fun h => ggX8_write_X3_load_1 w h) (fun h => ggX8_write_X3_load_2 w h))
set_option maxRecDepth 20000 in
theorem ggX8_write_X3_load : GoodIn wsX8_write wsX3_load := goodIn_sub ggX8_write_X3_load_m (by decide +kernel)
set_option maxRecDepth 20000 in
theorem ggX8_write_X3_store_1 : ∀ w ∈ ([.fieldLink RX3 9 "ScoreboardCore$Memory" "words" "[J", .constantLong RX3 22 (1152921504606846975), .methodLink RX3 18 yX3_holds, .static yX3_holds, .initialized RX3, .code yX3_holds cX3_holds 1 (some .boolean)] : List Cond), w ∈ wsX8_write := List.forall_mem_cons.mpr ⟨List.mem_of_getElem? (i := 12) rfl, List.forall_mem_cons.mpr ⟨List.mem_of_getElem? (i := 18) rfl, List.forall_mem_cons.mpr ⟨List.mem_of_getElem? (i := 13) rfl, List.forall_mem_cons.mpr ⟨List.mem_of_getElem? (i := 5) rfl, List.forall_mem_cons.mpr ⟨List.mem_of_getElem? (i := 6) rfl, List.forall_mem_cons.mpr ⟨List.mem_of_getElem? (i := 7) rfl, fun _ h => nomatch h⟩⟩⟩⟩⟩⟩
set_option maxRecDepth 20000 in
theorem ggX8_write_X3_store_2 : ∀ w ∈ wsX30, w ∈ wsX8_write := fun w h => List.mem_cons_of_mem _ (List.mem_append_left _ (List.mem_append_right _ (h)))
theorem ggX8_write_X3_store_m : ∀ w ∈ wsX3_store, w ∈ wsX8_write := fun w h => (List.mem_cons.mp h).elim (fun e => by rw [e]; exact List.mem_of_getElem? (i := 17) rfl) (fun h => (List.mem_append.mp h).elim (fun h => ggX8_write_X3_store_1 w h) (fun h => ggX8_write_X3_store_2 w h))
set_option maxRecDepth 20000 in
theorem ggX8_write_X3_store : GoodIn wsX8_write wsX3_store := goodIn_sub ggX8_write_X3_store_m (by decide +kernel)
theorem dX8_write_0 : decode cX8_write 0 = .ok (.iload_n 1, 1) := by decide +kernel
theorem dX8_write_1 : decode cX8_write 1 = .ok (.invokestatic 47, 3) := by decide +kernel
theorem dX8_write_4 : decode cX8_write 4 = .ok (.ifCond .ne 11, 3) := by decide +kernel
theorem dX8_write_7 : decode cX8_write 7 = .ok (.new 51, 3) := by decide +kernel
theorem dX8_write_10 : decode cX8_write 10 = .ok (.dup, 1) := by decide +kernel
theorem dX8_write_11 : decode cX8_write 11 = .ok (.invokespecial 53, 3) := by decide +kernel
theorem dX8_write_14 : decode cX8_write 14 = .ok (.athrow, 1) := by decide +kernel
theorem dX8_write_15 : decode cX8_write 15 = .ok (.aload_n 0, 1) := by decide +kernel
theorem dX8_write_16 : decode cX8_write 16 = .ok (.getfield 10, 3) := by decide +kernel
theorem dX8_write_19 : decode cX8_write 19 = .ok (.iload_n 1, 1) := by decide +kernel
theorem dX8_write_20 : decode cX8_write 20 = .ok (.invokevirtual 54, 3) := by decide +kernel
theorem dX8_write_23 : decode cX8_write 23 = .ok (.lstore 4, 2) := by decide +kernel
theorem dX8_write_25 : decode cX8_write 25 = .ok (.aload_n 0, 1) := by decide +kernel
theorem dX8_write_26 : decode cX8_write 26 = .ok (.getfield 10, 3) := by decide +kernel
theorem dX8_write_29 : decode cX8_write 29 = .ok (.iload_n 1, 1) := by decide +kernel
theorem dX8_write_30 : decode cX8_write 30 = .ok (.lload_n 2, 1) := by decide +kernel
theorem dX8_write_31 : decode cX8_write 31 = .ok (.invokevirtual 58, 3) := by decide +kernel
theorem dX8_write_34 : decode cX8_write 34 = .ok (.lload 4, 2) := by decide +kernel
theorem dX8_write_36 : decode cX8_write 36 = .ok (.lreturn, 1) := by decide +kernel
set_option maxRecDepth 20000 in
theorem ggX8_read_X3_holds_1 : ∀ w ∈ ([] : List Cond), w ∈ wsX8_read := fun _ h => nomatch h
theorem ggX8_read_X3_holds_m : ∀ w ∈ wsX3_holds, w ∈ wsX8_read := fun w h => (List.mem_cons.mp h).elim (fun e => by rw [e]; exact List.mem_of_getElem? (i := 7) rfl) (fun h => ggX8_read_X3_holds_1 w h)
set_option maxRecDepth 20000 in
theorem ggX8_read_X3_holds : GoodIn wsX8_read wsX3_holds := goodIn_sub ggX8_read_X3_holds_m (by decide +kernel)
set_option maxRecDepth 20000 in
theorem ggX8_read_X3_load_1 : ∀ w ∈ ([.fieldLink RX3 9 "ScoreboardCore$Memory" "words" "[J", .methodLink RX3 18 yX3_holds, .static yX3_holds, .initialized RX3, .code yX3_holds cX3_holds 1 (some .boolean)] : List Cond), w ∈ wsX8_read := List.forall_mem_cons.mpr ⟨List.mem_of_getElem? (i := 12) rfl, List.forall_mem_cons.mpr ⟨List.mem_of_getElem? (i := 13) rfl, List.forall_mem_cons.mpr ⟨List.mem_of_getElem? (i := 5) rfl, List.forall_mem_cons.mpr ⟨List.mem_of_getElem? (i := 6) rfl, List.forall_mem_cons.mpr ⟨List.mem_of_getElem? (i := 7) rfl, fun _ h => nomatch h⟩⟩⟩⟩⟩
set_option maxRecDepth 20000 in
theorem ggX8_read_X3_load_2 : ∀ w ∈ wsX30, w ∈ wsX8_read := fun w h => List.mem_cons_of_mem _ (List.mem_append_left _ (List.mem_append_right _ (h)))
theorem ggX8_read_X3_load_m : ∀ w ∈ wsX3_load, w ∈ wsX8_read := fun w h => (List.mem_cons.mp h).elim (fun e => by rw [e]; exact List.mem_of_getElem? (i := 11) rfl) (fun h => (List.mem_append.mp h).elim (fun h => ggX8_read_X3_load_1 w h) (fun h => ggX8_read_X3_load_2 w h))
set_option maxRecDepth 20000 in
theorem ggX8_read_X3_load : GoodIn wsX8_read wsX3_load := goodIn_sub ggX8_read_X3_load_m (by decide +kernel)
theorem dX8_read_0 : decode cX8_read 0 = .ok (.iload_n 1, 1) := by decide +kernel
theorem dX8_read_1 : decode cX8_read 1 = .ok (.invokestatic 47, 3) := by decide +kernel
theorem dX8_read_4 : decode cX8_read 4 = .ok (.ifCond .ne 11, 3) := by decide +kernel
theorem dX8_read_7 : decode cX8_read 7 = .ok (.new 51, 3) := by decide +kernel
theorem dX8_read_10 : decode cX8_read 10 = .ok (.dup, 1) := by decide +kernel
theorem dX8_read_11 : decode cX8_read 11 = .ok (.invokespecial 53, 3) := by decide +kernel
theorem dX8_read_14 : decode cX8_read 14 = .ok (.athrow, 1) := by decide +kernel
theorem dX8_read_15 : decode cX8_read 15 = .ok (.aload_n 0, 1) := by decide +kernel
theorem dX8_read_16 : decode cX8_read 16 = .ok (.getfield 10, 3) := by decide +kernel
theorem dX8_read_19 : decode cX8_read 19 = .ok (.iload_n 1, 1) := by decide +kernel
theorem dX8_read_20 : decode cX8_read 20 = .ok (.invokevirtual 54, 3) := by decide +kernel
theorem dX8_read_23 : decode cX8_read 23 = .ok (.lreturn, 1) := by decide +kernel
set_option maxRecDepth 20000 in
theorem ggX8_register_X6_get_1 : ∀ w ∈ ([.fieldLink RX6 9 "ScoreboardCore$Registers" "values" "[J"] : List Cond), w ∈ wsX8_register := List.forall_mem_cons.mpr ⟨List.mem_of_getElem? (i := 9) rfl, fun _ h => nomatch h⟩
set_option maxRecDepth 20000 in
theorem ggX8_register_X6_get_2 : ∀ w ∈ wsX60, w ∈ wsX8_register := fun w h => List.mem_cons_of_mem _ (List.mem_append_left _ (List.mem_append_right _ (h)))
theorem ggX8_register_X6_get_m : ∀ w ∈ wsX6_get, w ∈ wsX8_register := fun w h => (List.mem_cons.mp h).elim (fun e => by rw [e]; exact List.mem_of_getElem? (i := 8) rfl) (fun h => (List.mem_append.mp h).elim (fun h => ggX8_register_X6_get_1 w h) (fun h => ggX8_register_X6_get_2 w h))
set_option maxRecDepth 20000 in
theorem ggX8_register_X6_get : GoodIn wsX8_register wsX6_get := goodIn_sub ggX8_register_X6_get_m (by decide +kernel)
theorem dX8_register_0 : decode cX8_register 0 = .ok (.iload_n 1, 1) := by decide +kernel
theorem dX8_register_1 : decode cX8_register 1 = .ok (.ifCond .lt 9, 3) := by decide +kernel
theorem dX8_register_4 : decode cX8_register 4 = .ok (.iload_n 1, 1) := by decide +kernel
theorem dX8_register_5 : decode cX8_register 5 = .ok (.bipush 24, 2) := by decide +kernel
theorem dX8_register_7 : decode cX8_register 7 = .ok (.if_icmp .lt 11, 3) := by decide +kernel
theorem dX8_register_10 : decode cX8_register 10 = .ok (.new 51, 3) := by decide +kernel
theorem dX8_register_13 : decode cX8_register 13 = .ok (.dup, 1) := by decide +kernel
theorem dX8_register_14 : decode cX8_register 14 = .ok (.invokespecial 53, 3) := by decide +kernel
theorem dX8_register_17 : decode cX8_register 17 = .ok (.athrow, 1) := by decide +kernel
theorem dX8_register_18 : decode cX8_register 18 = .ok (.aload_n 0, 1) := by decide +kernel
theorem dX8_register_19 : decode cX8_register 19 = .ok (.getfield 19, 3) := by decide +kernel
theorem dX8_register_22 : decode cX8_register 22 = .ok (.iload_n 1, 1) := by decide +kernel
theorem dX8_register_23 : decode cX8_register 23 = .ok (.invokevirtual 62, 3) := by decide +kernel
theorem dX8_register_26 : decode cX8_register 26 = .ok (.lreturn, 1) := by decide +kernel
set_option maxRecDepth 20000 in
theorem ggX8_put_X6_set_1 : ∀ w ∈ ([.fieldLink RX6 9 "ScoreboardCore$Registers" "values" "[J", .constantLong RX6 15 (1152921504606846975), .constantLong RX6 17 (262143)] : List Cond), w ∈ wsX8_put := List.forall_mem_cons.mpr ⟨List.mem_of_getElem? (i := 9) rfl, List.forall_mem_cons.mpr ⟨List.mem_of_getElem? (i := 10) rfl, List.forall_mem_cons.mpr ⟨List.mem_of_getElem? (i := 11) rfl, fun _ h => nomatch h⟩⟩⟩
set_option maxRecDepth 20000 in
theorem ggX8_put_X6_set_2 : ∀ w ∈ wsX60, w ∈ wsX8_put := fun w h => List.mem_cons_of_mem _ (List.mem_append_left _ (List.mem_append_right _ (h)))
theorem ggX8_put_X6_set_m : ∀ w ∈ wsX6_set, w ∈ wsX8_put := fun w h => (List.mem_cons.mp h).elim (fun e => by rw [e]; exact List.mem_of_getElem? (i := 8) rfl) (fun h => (List.mem_append.mp h).elim (fun h => ggX8_put_X6_set_1 w h) (fun h => ggX8_put_X6_set_2 w h))
set_option maxRecDepth 20000 in
theorem ggX8_put_X6_set : GoodIn wsX8_put wsX6_set := goodIn_sub ggX8_put_X6_set_m (by decide +kernel)
theorem dX8_put_0 : decode cX8_put 0 = .ok (.iload_n 1, 1) := by decide +kernel
theorem dX8_put_1 : decode cX8_put 1 = .ok (.ifCond .lt 9, 3) := by decide +kernel
theorem dX8_put_4 : decode cX8_put 4 = .ok (.iload_n 1, 1) := by decide +kernel
theorem dX8_put_5 : decode cX8_put 5 = .ok (.bipush 24, 2) := by decide +kernel
theorem dX8_put_7 : decode cX8_put 7 = .ok (.if_icmp .lt 11, 3) := by decide +kernel
theorem dX8_put_10 : decode cX8_put 10 = .ok (.new 51, 3) := by decide +kernel
theorem dX8_put_13 : decode cX8_put 13 = .ok (.dup, 1) := by decide +kernel
theorem dX8_put_14 : decode cX8_put 14 = .ok (.invokespecial 53, 3) := by decide +kernel
theorem dX8_put_17 : decode cX8_put 17 = .ok (.athrow, 1) := by decide +kernel
theorem dX8_put_18 : decode cX8_put 18 = .ok (.aload_n 0, 1) := by decide +kernel
theorem dX8_put_19 : decode cX8_put 19 = .ok (.getfield 19, 3) := by decide +kernel
theorem dX8_put_22 : decode cX8_put 22 = .ok (.iload_n 1, 1) := by decide +kernel
theorem dX8_put_23 : decode cX8_put 23 = .ok (.lload_n 2, 1) := by decide +kernel
theorem dX8_put_24 : decode cX8_put 24 = .ok (.invokevirtual 65, 3) := by decide +kernel
theorem dX8_put_27 : decode cX8_put 27 = .ok (.return_, 1) := by decide +kernel
set_option maxRecDepth 20000 in
theorem ggX8_start_X3_holds_1 : ∀ w ∈ ([] : List Cond), w ∈ wsX8_start := fun _ h => nomatch h
theorem ggX8_start_X3_holds_m : ∀ w ∈ wsX3_holds, w ∈ wsX8_start := fun w h => (List.mem_cons.mp h).elim (fun e => by rw [e]; exact List.mem_of_getElem? (i := 7) rfl) (fun h => ggX8_start_X3_holds_1 w h)
set_option maxRecDepth 20000 in
theorem ggX8_start_X3_holds : GoodIn wsX8_start wsX3_holds := goodIn_sub ggX8_start_X3_holds_m (by decide +kernel)
set_option maxRecDepth 20000 in
theorem ggX8_start_X8_goOnAt_1 : ∀ w ∈ ([.fieldLink RX8 37 "ScoreboardCore" "word" "I", .fieldLink RX8 41 "ScoreboardCore" "parcel" "I", .fieldLink RX8 44 "ScoreboardCore" "stop" "I", .methodLink RX8 47 yX3_holds, .static yX3_holds, .initialized RX3, .code yX3_holds cX3_holds 1 (some .boolean)] : List Cond), w ∈ wsX8_start := List.forall_mem_cons.mpr ⟨List.mem_of_getElem? (i := 13) rfl, List.forall_mem_cons.mpr ⟨List.mem_of_getElem? (i := 14) rfl, List.forall_mem_cons.mpr ⟨List.mem_of_getElem? (i := 3) rfl, List.forall_mem_cons.mpr ⟨List.mem_of_getElem? (i := 4) rfl, List.forall_mem_cons.mpr ⟨List.mem_of_getElem? (i := 5) rfl, List.forall_mem_cons.mpr ⟨List.mem_of_getElem? (i := 6) rfl, List.forall_mem_cons.mpr ⟨List.mem_of_getElem? (i := 7) rfl, fun _ h => nomatch h⟩⟩⟩⟩⟩⟩⟩
set_option maxRecDepth 20000 in
theorem ggX8_start_X8_goOnAt_2 : ∀ w ∈ wsX80, w ∈ wsX8_start := fun w h => List.mem_cons_of_mem _ (List.mem_append_left _ (List.mem_append_right _ (h)))
theorem ggX8_start_X8_goOnAt_m : ∀ w ∈ wsX8_goOnAt, w ∈ wsX8_start := fun w h => (List.mem_cons.mp h).elim (fun e => by rw [e]; exact List.mem_of_getElem? (i := 12) rfl) (fun h => (List.mem_append.mp h).elim (fun h => ggX8_start_X8_goOnAt_1 w h) (fun h => ggX8_start_X8_goOnAt_2 w h))
set_option maxRecDepth 20000 in
theorem ggX8_start_X8_goOnAt : GoodIn wsX8_start wsX8_goOnAt := goodIn_sub ggX8_start_X8_goOnAt_m (by decide +kernel)
theorem dX8_start_0 : decode cX8_start 0 = .ok (.iload_n 1, 1) := by decide +kernel
theorem dX8_start_1 : decode cX8_start 1 = .ok (.invokestatic 47, 3) := by decide +kernel
theorem dX8_start_4 : decode cX8_start 4 = .ok (.ifCond .ne 11, 3) := by decide +kernel
theorem dX8_start_7 : decode cX8_start 7 = .ok (.new 68, 3) := by decide +kernel
theorem dX8_start_10 : decode cX8_start 10 = .ok (.dup, 1) := by decide +kernel
theorem dX8_start_11 : decode cX8_start 11 = .ok (.invokespecial 70, 3) := by decide +kernel
theorem dX8_start_14 : decode cX8_start 14 = .ok (.athrow, 1) := by decide +kernel
theorem dX8_start_15 : decode cX8_start 15 = .ok (.aload_n 0, 1) := by decide +kernel
theorem dX8_start_16 : decode cX8_start 16 = .ok (.iconst 3, 1) := by decide +kernel
theorem dX8_start_17 : decode cX8_start 17 = .ok (.putfield 44, 3) := by decide +kernel
theorem dX8_start_20 : decode cX8_start 20 = .ok (.aload_n 0, 1) := by decide +kernel
theorem dX8_start_21 : decode cX8_start 21 = .ok (.iload_n 1, 1) := by decide +kernel
theorem dX8_start_22 : decode cX8_start 22 = .ok (.invokevirtual 71, 3) := by decide +kernel
theorem dX8_start_25 : decode cX8_start 25 = .ok (.return_, 1) := by decide +kernel
set_option maxRecDepth 20000 in
theorem ggX8_run_X3_keepProgram_1 : ∀ w ∈ ([.fieldLink RX3 9 "ScoreboardCore$Memory" "words" "[J", .fieldLink RX3 15 "ScoreboardCore$Memory" "program" "[J", .methodLink RX3 24 arraycopyName, .native arraycopyName, .static arraycopyName, .initialized "java/lang/System"] : List Cond), w ∈ wsX8_run := List.forall_mem_cons.mpr ⟨List.mem_of_getElem? (i := 11) rfl, List.forall_mem_cons.mpr ⟨List.mem_of_getElem? (i := 12) rfl, List.forall_mem_cons.mpr ⟨List.mem_of_getElem? (i := 13) rfl, List.forall_mem_cons.mpr ⟨List.mem_of_getElem? (i := 14) rfl, List.forall_mem_cons.mpr ⟨List.mem_of_getElem? (i := 15) rfl, List.forall_mem_cons.mpr ⟨List.mem_of_getElem? (i := 16) rfl, fun _ h => nomatch h⟩⟩⟩⟩⟩⟩
set_option maxRecDepth 20000 in
theorem ggX8_run_X3_keepProgram_2 : ∀ w ∈ wsX30, w ∈ wsX8_run := fun w h => List.mem_cons_of_mem _ (List.mem_append_left _ (List.mem_append_left _ (List.mem_append_left _ (List.mem_append_left _ (List.mem_append_left _ (List.mem_append_right _ (h)))))))
theorem ggX8_run_X3_keepProgram_m : ∀ w ∈ wsX3_keepProgram, w ∈ wsX8_run := fun w h => (List.mem_cons.mp h).elim (fun e => by rw [e]; exact List.mem_of_getElem? (i := 10) rfl) (fun h => (List.mem_append.mp h).elim (fun h => ggX8_run_X3_keepProgram_1 w h) (fun h => ggX8_run_X3_keepProgram_2 w h))
set_option maxRecDepth 20000 in
theorem ggX8_run_X3_keepProgram : GoodIn wsX8_run wsX3_keepProgram := goodIn_sub ggX8_run_X3_keepProgram_m (by decide +kernel)
set_option maxRecDepth 20000 in
theorem ggX8_run_X0_empty_1 : ∀ w ∈ ([.fieldLink RX0 19 "ScoreboardCore$Board" "unitFreeFrom" "[I", .fieldLink RX0 22 "ScoreboardCore$Board" "registerFreeFrom" "[I", .fieldLink RX0 25 "ScoreboardCore$Board" "registerLastRead" "[I", .fieldLink RX0 38 "ScoreboardCore$Board" "memoryLastEnd" "I", .fieldLink RX0 42 "ScoreboardCore$Board" "earliest" "I", .fieldLink RX0 45 "ScoreboardCore$Board" "last" "I", .methodLink RX0 32 yJ7_fill_53178, .static yJ7_fill_53178, .initialized RJ7, .code yJ7_fill_53178 cJ7_fill_53178 4 none] : List Cond), w ∈ wsX8_run := List.forall_mem_cons.mpr ⟨List.mem_of_getElem? (i := 22) rfl, List.forall_mem_cons.mpr ⟨List.mem_of_getElem? (i := 23) rfl, List.forall_mem_cons.mpr ⟨List.mem_of_getElem? (i := 24) rfl, List.forall_mem_cons.mpr ⟨List.mem_of_getElem? (i := 25) rfl, List.forall_mem_cons.mpr ⟨List.mem_of_getElem? (i := 26) rfl, List.forall_mem_cons.mpr ⟨List.mem_of_getElem? (i := 27) rfl, List.forall_mem_cons.mpr ⟨List.mem_of_getElem? (i := 28) rfl, List.forall_mem_cons.mpr ⟨List.mem_of_getElem? (i := 29) rfl, List.forall_mem_cons.mpr ⟨List.mem_of_getElem? (i := 30) rfl, List.forall_mem_cons.mpr ⟨List.mem_of_getElem? (i := 31) rfl, fun _ h => nomatch h⟩⟩⟩⟩⟩⟩⟩⟩⟩⟩
set_option maxRecDepth 20000 in
theorem ggX8_run_X0_empty_2 : ∀ w ∈ wsX00, w ∈ wsX8_run := fun w h => List.mem_cons_of_mem _ (List.mem_append_left _ (List.mem_append_left _ (List.mem_append_left _ (List.mem_append_left _ (List.mem_append_right _ (h))))))
theorem ggX8_run_X0_empty_m : ∀ w ∈ wsX0_empty, w ∈ wsX8_run := fun w h => (List.mem_cons.mp h).elim (fun e => by rw [e]; exact List.mem_of_getElem? (i := 21) rfl) (fun h => (List.mem_append.mp h).elim (fun h => ggX8_run_X0_empty_1 w h) (fun h => ggX8_run_X0_empty_2 w h))
set_option maxRecDepth 20000 in
theorem ggX8_run_X0_empty : GoodIn wsX8_run wsX0_empty := goodIn_sub ggX8_run_X0_empty_m (by decide +kernel)
set_option maxRecDepth 20000 in
theorem ggX8_run_X8_takeNext_1 : ∀ w ∈ (wsX8_takeNext_r1 : List Cond), w ∈ wsX8_run := List.forall_mem_cons.mpr ⟨List.mem_of_getElem? (i := 37) rfl, List.forall_mem_cons.mpr ⟨List.mem_of_getElem? (i := 3) rfl, List.forall_mem_cons.mpr ⟨List.mem_of_getElem? (i := 38) rfl, List.forall_mem_cons.mpr ⟨List.mem_of_getElem? (i := 39) rfl, List.forall_mem_cons.mpr ⟨List.mem_of_getElem? (i := 5) rfl, List.forall_mem_cons.mpr ⟨List.mem_of_getElem? (i := 4) rfl, List.forall_mem_cons.mpr ⟨List.mem_of_getElem? (i := 40) rfl, List.forall_mem_cons.mpr ⟨List.mem_of_getElem? (i := 41) rfl, List.forall_mem_cons.mpr ⟨List.mem_of_getElem? (i := 42) rfl, List.forall_mem_cons.mpr ⟨List.mem_of_getElem? (i := 43) rfl, List.forall_mem_cons.mpr ⟨List.mem_of_getElem? (i := 9) rfl, List.forall_mem_cons.mpr ⟨List.mem_of_getElem? (i := 44) rfl, List.forall_mem_cons.mpr ⟨List.mem_of_getElem? (i := 12) rfl, List.forall_mem_cons.mpr ⟨List.mem_of_getElem? (i := 45) rfl, List.forall_mem_cons.mpr ⟨List.mem_of_getElem? (i := 46) rfl, List.forall_mem_cons.mpr ⟨List.mem_of_getElem? (i := 47) rfl, List.forall_mem_cons.mpr ⟨List.mem_of_getElem? (i := 48) rfl, List.forall_mem_cons.mpr ⟨List.mem_of_getElem? (i := 49) rfl, List.forall_mem_cons.mpr ⟨List.mem_of_getElem? (i := 50) rfl, List.forall_mem_cons.mpr ⟨List.mem_of_getElem? (i := 51) rfl, List.forall_mem_cons.mpr ⟨List.mem_of_getElem? (i := 52) rfl, List.forall_mem_cons.mpr ⟨List.mem_of_getElem? (i := 53) rfl, List.forall_mem_cons.mpr ⟨List.mem_of_getElem? (i := 54) rfl, List.forall_mem_cons.mpr ⟨List.mem_of_getElem? (i := 55) rfl, fun _ h => nomatch h⟩⟩⟩⟩⟩⟩⟩⟩⟩⟩⟩⟩⟩⟩⟩⟩⟩⟩⟩⟩⟩⟩⟩⟩
set_option maxRecDepth 20000 in
theorem ggX8_run_X8_takeNext_2 : ∀ w ∈ (wsX8_takeNext_r2 : List Cond), w ∈ wsX8_run := List.forall_mem_cons.mpr ⟨List.mem_of_getElem? (i := 56) rfl, List.forall_mem_cons.mpr ⟨List.mem_of_getElem? (i := 57) rfl, List.forall_mem_cons.mpr ⟨List.mem_of_getElem? (i := 58) rfl, List.forall_mem_cons.mpr ⟨List.mem_of_getElem? (i := 59) rfl, List.forall_mem_cons.mpr ⟨List.mem_of_getElem? (i := 60) rfl, List.forall_mem_cons.mpr ⟨List.mem_of_getElem? (i := 61) rfl, List.forall_mem_cons.mpr ⟨List.mem_of_getElem? (i := 62) rfl, List.forall_mem_cons.mpr ⟨List.mem_of_getElem? (i := 63) rfl, List.forall_mem_cons.mpr ⟨List.mem_of_getElem? (i := 64) rfl, List.forall_mem_cons.mpr ⟨List.mem_of_getElem? (i := 65) rfl, List.forall_mem_cons.mpr ⟨List.mem_of_getElem? (i := 66) rfl, List.forall_mem_cons.mpr ⟨List.mem_of_getElem? (i := 67) rfl, List.forall_mem_cons.mpr ⟨List.mem_of_getElem? (i := 68) rfl, List.forall_mem_cons.mpr ⟨List.mem_of_getElem? (i := 69) rfl, List.forall_mem_cons.mpr ⟨List.mem_of_getElem? (i := 70) rfl, List.forall_mem_cons.mpr ⟨List.mem_of_getElem? (i := 71) rfl, List.forall_mem_cons.mpr ⟨List.mem_of_getElem? (i := 72) rfl, List.forall_mem_cons.mpr ⟨List.mem_of_getElem? (i := 73) rfl, List.forall_mem_cons.mpr ⟨List.mem_of_getElem? (i := 74) rfl, List.forall_mem_cons.mpr ⟨List.mem_of_getElem? (i := 75) rfl, List.forall_mem_cons.mpr ⟨List.mem_of_getElem? (i := 76) rfl, List.forall_mem_cons.mpr ⟨List.mem_of_getElem? (i := 77) rfl, List.forall_mem_cons.mpr ⟨List.mem_of_getElem? (i := 78) rfl, List.forall_mem_cons.mpr ⟨List.mem_of_getElem? (i := 79) rfl, fun _ h => nomatch h⟩⟩⟩⟩⟩⟩⟩⟩⟩⟩⟩⟩⟩⟩⟩⟩⟩⟩⟩⟩⟩⟩⟩⟩
set_option maxRecDepth 20000 in
theorem ggX8_run_X8_takeNext_3 : ∀ w ∈ (wsX8_takeNext_r3 : List Cond), w ∈ wsX8_run := List.forall_mem_cons.mpr ⟨List.mem_of_getElem? (i := 80) rfl, List.forall_mem_cons.mpr ⟨List.mem_of_getElem? (i := 81) rfl, List.forall_mem_cons.mpr ⟨List.mem_of_getElem? (i := 82) rfl, List.forall_mem_cons.mpr ⟨List.mem_of_getElem? (i := 83) rfl, List.forall_mem_cons.mpr ⟨List.mem_of_getElem? (i := 84) rfl, List.forall_mem_cons.mpr ⟨List.mem_of_getElem? (i := 85) rfl, List.forall_mem_cons.mpr ⟨List.mem_of_getElem? (i := 86) rfl, List.forall_mem_cons.mpr ⟨List.mem_of_getElem? (i := 87) rfl, List.forall_mem_cons.mpr ⟨List.mem_of_getElem? (i := 88) rfl, List.forall_mem_cons.mpr ⟨List.mem_of_getElem? (i := 89) rfl, List.forall_mem_cons.mpr ⟨List.mem_of_getElem? (i := 90) rfl, List.forall_mem_cons.mpr ⟨List.mem_of_getElem? (i := 91) rfl, List.forall_mem_cons.mpr ⟨List.mem_of_getElem? (i := 92) rfl, List.forall_mem_cons.mpr ⟨List.mem_of_getElem? (i := 93) rfl, List.forall_mem_cons.mpr ⟨List.mem_of_getElem? (i := 94) rfl, List.forall_mem_cons.mpr ⟨List.mem_of_getElem? (i := 95) rfl, List.forall_mem_cons.mpr ⟨List.mem_of_getElem? (i := 96) rfl, List.forall_mem_cons.mpr ⟨List.mem_of_getElem? (i := 97) rfl, List.forall_mem_cons.mpr ⟨List.mem_of_getElem? (i := 98) rfl, List.forall_mem_cons.mpr ⟨List.mem_of_getElem? (i := 99) rfl, List.forall_mem_cons.mpr ⟨List.mem_of_getElem? (i := 100) rfl, List.forall_mem_cons.mpr ⟨List.mem_of_getElem? (i := 101) rfl, List.forall_mem_cons.mpr ⟨List.mem_of_getElem? (i := 102) rfl, List.forall_mem_cons.mpr ⟨List.mem_of_getElem? (i := 103) rfl, fun _ h => nomatch h⟩⟩⟩⟩⟩⟩⟩⟩⟩⟩⟩⟩⟩⟩⟩⟩⟩⟩⟩⟩⟩⟩⟩⟩
set_option maxRecDepth 20000 in
theorem ggX8_run_X8_takeNext_4 : ∀ w ∈ (wsX8_takeNext_r4 : List Cond), w ∈ wsX8_run := List.forall_mem_cons.mpr ⟨List.mem_of_getElem? (i := 104) rfl, List.forall_mem_cons.mpr ⟨List.mem_of_getElem? (i := 105) rfl, List.forall_mem_cons.mpr ⟨List.mem_of_getElem? (i := 106) rfl, List.forall_mem_cons.mpr ⟨List.mem_of_getElem? (i := 107) rfl, List.forall_mem_cons.mpr ⟨List.mem_of_getElem? (i := 108) rfl, List.forall_mem_cons.mpr ⟨List.mem_of_getElem? (i := 109) rfl, List.forall_mem_cons.mpr ⟨List.mem_of_getElem? (i := 110) rfl, List.forall_mem_cons.mpr ⟨List.mem_of_getElem? (i := 111) rfl, List.forall_mem_cons.mpr ⟨List.mem_of_getElem? (i := 112) rfl, List.forall_mem_cons.mpr ⟨List.mem_of_getElem? (i := 113) rfl, List.forall_mem_cons.mpr ⟨List.mem_of_getElem? (i := 114) rfl, List.forall_mem_cons.mpr ⟨List.mem_of_getElem? (i := 115) rfl, List.forall_mem_cons.mpr ⟨List.mem_of_getElem? (i := 116) rfl, List.forall_mem_cons.mpr ⟨List.mem_of_getElem? (i := 117) rfl, List.forall_mem_cons.mpr ⟨List.mem_of_getElem? (i := 118) rfl, List.forall_mem_cons.mpr ⟨List.mem_of_getElem? (i := 119) rfl, List.forall_mem_cons.mpr ⟨List.mem_of_getElem? (i := 120) rfl, List.forall_mem_cons.mpr ⟨List.mem_of_getElem? (i := 121) rfl, List.forall_mem_cons.mpr ⟨List.mem_of_getElem? (i := 122) rfl, List.forall_mem_cons.mpr ⟨List.mem_of_getElem? (i := 123) rfl, List.forall_mem_cons.mpr ⟨List.mem_of_getElem? (i := 124) rfl, List.forall_mem_cons.mpr ⟨List.mem_of_getElem? (i := 125) rfl, List.forall_mem_cons.mpr ⟨List.mem_of_getElem? (i := 126) rfl, List.forall_mem_cons.mpr ⟨List.mem_of_getElem? (i := 127) rfl, fun _ h => nomatch h⟩⟩⟩⟩⟩⟩⟩⟩⟩⟩⟩⟩⟩⟩⟩⟩⟩⟩⟩⟩⟩⟩⟩⟩
set_option maxRecDepth 20000 in
theorem ggX8_run_X8_takeNext_5 : ∀ w ∈ (wsX8_takeNext_r5 : List Cond), w ∈ wsX8_run := List.forall_mem_cons.mpr ⟨List.mem_of_getElem? (i := 128) rfl, List.forall_mem_cons.mpr ⟨List.mem_of_getElem? (i := 129) rfl, List.forall_mem_cons.mpr ⟨List.mem_of_getElem? (i := 130) rfl, List.forall_mem_cons.mpr ⟨List.mem_of_getElem? (i := 131) rfl, List.forall_mem_cons.mpr ⟨List.mem_of_getElem? (i := 132) rfl, List.forall_mem_cons.mpr ⟨List.mem_of_getElem? (i := 133) rfl, List.forall_mem_cons.mpr ⟨List.mem_of_getElem? (i := 134) rfl, List.forall_mem_cons.mpr ⟨List.mem_of_getElem? (i := 135) rfl, List.forall_mem_cons.mpr ⟨List.mem_of_getElem? (i := 136) rfl, List.forall_mem_cons.mpr ⟨List.mem_of_getElem? (i := 35) rfl, List.forall_mem_cons.mpr ⟨List.mem_of_getElem? (i := 137) rfl, List.forall_mem_cons.mpr ⟨List.mem_of_getElem? (i := 138) rfl, List.forall_mem_cons.mpr ⟨List.mem_of_getElem? (i := 139) rfl, List.forall_mem_cons.mpr ⟨List.mem_of_getElem? (i := 140) rfl, List.forall_mem_cons.mpr ⟨List.mem_of_getElem? (i := 141) rfl, List.forall_mem_cons.mpr ⟨List.mem_of_getElem? (i := 142) rfl, List.forall_mem_cons.mpr ⟨List.mem_of_getElem? (i := 143) rfl, List.forall_mem_cons.mpr ⟨List.mem_of_getElem? (i := 144) rfl, List.forall_mem_cons.mpr ⟨List.mem_of_getElem? (i := 145) rfl, List.forall_mem_cons.mpr ⟨List.mem_of_getElem? (i := 146) rfl, List.forall_mem_cons.mpr ⟨List.mem_of_getElem? (i := 147) rfl, List.forall_mem_cons.mpr ⟨List.mem_of_getElem? (i := 148) rfl, List.forall_mem_cons.mpr ⟨List.mem_of_getElem? (i := 149) rfl, List.forall_mem_cons.mpr ⟨List.mem_of_getElem? (i := 150) rfl, fun _ h => nomatch h⟩⟩⟩⟩⟩⟩⟩⟩⟩⟩⟩⟩⟩⟩⟩⟩⟩⟩⟩⟩⟩⟩⟩⟩
set_option maxRecDepth 20000 in
theorem ggX8_run_X8_takeNext_6 : ∀ w ∈ (wsX8_takeNext_r6 : List Cond), w ∈ wsX8_run := List.forall_mem_cons.mpr ⟨List.mem_of_getElem? (i := 151) rfl, List.forall_mem_cons.mpr ⟨List.mem_of_getElem? (i := 152) rfl, List.forall_mem_cons.mpr ⟨List.mem_of_getElem? (i := 153) rfl, List.forall_mem_cons.mpr ⟨List.mem_of_getElem? (i := 154) rfl, List.forall_mem_cons.mpr ⟨List.mem_of_getElem? (i := 155) rfl, List.forall_mem_cons.mpr ⟨List.mem_of_getElem? (i := 156) rfl, List.forall_mem_cons.mpr ⟨List.mem_of_getElem? (i := 157) rfl, List.forall_mem_cons.mpr ⟨List.mem_of_getElem? (i := 158) rfl, List.forall_mem_cons.mpr ⟨List.mem_of_getElem? (i := 159) rfl, List.forall_mem_cons.mpr ⟨List.mem_of_getElem? (i := 160) rfl, List.forall_mem_cons.mpr ⟨List.mem_of_getElem? (i := 161) rfl, List.forall_mem_cons.mpr ⟨List.mem_of_getElem? (i := 162) rfl, List.forall_mem_cons.mpr ⟨List.mem_of_getElem? (i := 163) rfl, List.forall_mem_cons.mpr ⟨List.mem_of_getElem? (i := 164) rfl, List.forall_mem_cons.mpr ⟨List.mem_of_getElem? (i := 165) rfl, List.forall_mem_cons.mpr ⟨List.mem_of_getElem? (i := 166) rfl, List.forall_mem_cons.mpr ⟨List.mem_of_getElem? (i := 167) rfl, List.forall_mem_cons.mpr ⟨List.mem_of_getElem? (i := 168) rfl, List.forall_mem_cons.mpr ⟨List.mem_of_getElem? (i := 169) rfl, List.forall_mem_cons.mpr ⟨List.mem_of_getElem? (i := 170) rfl, List.forall_mem_cons.mpr ⟨List.mem_of_getElem? (i := 171) rfl, List.forall_mem_cons.mpr ⟨List.mem_of_getElem? (i := 172) rfl, List.forall_mem_cons.mpr ⟨List.mem_of_getElem? (i := 173) rfl, List.forall_mem_cons.mpr ⟨List.mem_of_getElem? (i := 174) rfl, fun _ h => nomatch h⟩⟩⟩⟩⟩⟩⟩⟩⟩⟩⟩⟩⟩⟩⟩⟩⟩⟩⟩⟩⟩⟩⟩⟩
set_option maxRecDepth 20000 in
theorem ggX8_run_X8_takeNext_7 : ∀ w ∈ (wsX8_takeNext_r7 : List Cond), w ∈ wsX8_run := List.forall_mem_cons.mpr ⟨List.mem_of_getElem? (i := 175) rfl, List.forall_mem_cons.mpr ⟨List.mem_of_getElem? (i := 176) rfl, List.forall_mem_cons.mpr ⟨List.mem_of_getElem? (i := 177) rfl, List.forall_mem_cons.mpr ⟨List.mem_of_getElem? (i := 178) rfl, List.forall_mem_cons.mpr ⟨List.mem_of_getElem? (i := 179) rfl, List.forall_mem_cons.mpr ⟨List.mem_of_getElem? (i := 180) rfl, List.forall_mem_cons.mpr ⟨List.mem_of_getElem? (i := 181) rfl, List.forall_mem_cons.mpr ⟨List.mem_of_getElem? (i := 182) rfl, List.forall_mem_cons.mpr ⟨List.mem_of_getElem? (i := 183) rfl, List.forall_mem_cons.mpr ⟨List.mem_of_getElem? (i := 184) rfl, List.forall_mem_cons.mpr ⟨List.mem_of_getElem? (i := 185) rfl, List.forall_mem_cons.mpr ⟨List.mem_of_getElem? (i := 186) rfl, List.forall_mem_cons.mpr ⟨List.mem_of_getElem? (i := 187) rfl, List.forall_mem_cons.mpr ⟨List.mem_of_getElem? (i := 188) rfl, List.forall_mem_cons.mpr ⟨List.mem_of_getElem? (i := 189) rfl, List.forall_mem_cons.mpr ⟨List.mem_of_getElem? (i := 190) rfl, List.forall_mem_cons.mpr ⟨List.mem_of_getElem? (i := 191) rfl, List.forall_mem_cons.mpr ⟨List.mem_of_getElem? (i := 192) rfl, List.forall_mem_cons.mpr ⟨List.mem_of_getElem? (i := 20) rfl, List.forall_mem_cons.mpr ⟨List.mem_of_getElem? (i := 193) rfl, List.forall_mem_cons.mpr ⟨List.mem_of_getElem? (i := 23) rfl, List.forall_mem_cons.mpr ⟨List.mem_of_getElem? (i := 25) rfl, List.forall_mem_cons.mpr ⟨List.mem_of_getElem? (i := 26) rfl, List.forall_mem_cons.mpr ⟨List.mem_of_getElem? (i := 194) rfl, fun _ h => nomatch h⟩⟩⟩⟩⟩⟩⟩⟩⟩⟩⟩⟩⟩⟩⟩⟩⟩⟩⟩⟩⟩⟩⟩⟩
set_option maxRecDepth 20000 in
theorem ggX8_run_X8_takeNext_8 : ∀ w ∈ (wsX8_takeNext_r8 : List Cond), w ∈ wsX8_run := List.forall_mem_cons.mpr ⟨List.mem_of_getElem? (i := 195) rfl, List.forall_mem_cons.mpr ⟨List.mem_of_getElem? (i := 196) rfl, List.forall_mem_cons.mpr ⟨List.mem_of_getElem? (i := 197) rfl, List.forall_mem_cons.mpr ⟨List.mem_of_getElem? (i := 198) rfl, List.forall_mem_cons.mpr ⟨List.mem_of_getElem? (i := 199) rfl, List.forall_mem_cons.mpr ⟨List.mem_of_getElem? (i := 200) rfl, List.forall_mem_cons.mpr ⟨List.mem_of_getElem? (i := 201) rfl, List.forall_mem_cons.mpr ⟨List.mem_of_getElem? (i := 202) rfl, List.forall_mem_cons.mpr ⟨List.mem_of_getElem? (i := 203) rfl, List.forall_mem_cons.mpr ⟨List.mem_of_getElem? (i := 204) rfl, List.forall_mem_cons.mpr ⟨List.mem_of_getElem? (i := 205) rfl, List.forall_mem_cons.mpr ⟨List.mem_of_getElem? (i := 206) rfl, List.forall_mem_cons.mpr ⟨List.mem_of_getElem? (i := 207) rfl, List.forall_mem_cons.mpr ⟨List.mem_of_getElem? (i := 208) rfl, List.forall_mem_cons.mpr ⟨List.mem_of_getElem? (i := 209) rfl, List.forall_mem_cons.mpr ⟨List.mem_of_getElem? (i := 210) rfl, List.forall_mem_cons.mpr ⟨List.mem_of_getElem? (i := 211) rfl, List.forall_mem_cons.mpr ⟨List.mem_of_getElem? (i := 212) rfl, List.forall_mem_cons.mpr ⟨List.mem_of_getElem? (i := 213) rfl, List.forall_mem_cons.mpr ⟨List.mem_of_getElem? (i := 214) rfl, List.forall_mem_cons.mpr ⟨List.mem_of_getElem? (i := 215) rfl, List.forall_mem_cons.mpr ⟨List.mem_of_getElem? (i := 216) rfl, List.forall_mem_cons.mpr ⟨List.mem_of_getElem? (i := 217) rfl, List.forall_mem_cons.mpr ⟨List.mem_of_getElem? (i := 27) rfl, fun _ h => nomatch h⟩⟩⟩⟩⟩⟩⟩⟩⟩⟩⟩⟩⟩⟩⟩⟩⟩⟩⟩⟩⟩⟩⟩⟩
set_option maxRecDepth 20000 in
theorem ggX8_run_X8_takeNext_9 : ∀ w ∈ (wsX8_takeNext_r9 : List Cond), w ∈ wsX8_run := List.forall_mem_cons.mpr ⟨List.mem_of_getElem? (i := 218) rfl, List.forall_mem_cons.mpr ⟨List.mem_of_getElem? (i := 219) rfl, List.forall_mem_cons.mpr ⟨List.mem_of_getElem? (i := 220) rfl, List.forall_mem_cons.mpr ⟨List.mem_of_getElem? (i := 221) rfl, List.forall_mem_cons.mpr ⟨List.mem_of_getElem? (i := 222) rfl, List.forall_mem_cons.mpr ⟨List.mem_of_getElem? (i := 223) rfl, List.forall_mem_cons.mpr ⟨List.mem_of_getElem? (i := 224) rfl, List.forall_mem_cons.mpr ⟨List.mem_of_getElem? (i := 225) rfl, List.forall_mem_cons.mpr ⟨List.mem_of_getElem? (i := 226) rfl, List.forall_mem_cons.mpr ⟨List.mem_of_getElem? (i := 227) rfl, List.forall_mem_cons.mpr ⟨List.mem_of_getElem? (i := 228) rfl, List.forall_mem_cons.mpr ⟨List.mem_of_getElem? (i := 229) rfl, List.forall_mem_cons.mpr ⟨List.mem_of_getElem? (i := 230) rfl, List.forall_mem_cons.mpr ⟨List.mem_of_getElem? (i := 231) rfl, List.forall_mem_cons.mpr ⟨List.mem_of_getElem? (i := 232) rfl, List.forall_mem_cons.mpr ⟨List.mem_of_getElem? (i := 233) rfl, List.forall_mem_cons.mpr ⟨List.mem_of_getElem? (i := 234) rfl, List.forall_mem_cons.mpr ⟨List.mem_of_getElem? (i := 235) rfl, List.forall_mem_cons.mpr ⟨List.mem_of_getElem? (i := 236) rfl, List.forall_mem_cons.mpr ⟨List.mem_of_getElem? (i := 237) rfl, List.forall_mem_cons.mpr ⟨List.mem_of_getElem? (i := 238) rfl, List.forall_mem_cons.mpr ⟨List.mem_of_getElem? (i := 239) rfl, List.forall_mem_cons.mpr ⟨List.mem_of_getElem? (i := 240) rfl, List.forall_mem_cons.mpr ⟨List.mem_of_getElem? (i := 241) rfl, fun _ h => nomatch h⟩⟩⟩⟩⟩⟩⟩⟩⟩⟩⟩⟩⟩⟩⟩⟩⟩⟩⟩⟩⟩⟩⟩⟩
set_option maxRecDepth 20000 in
theorem ggX8_run_X8_takeNext_10 : ∀ w ∈ (wsX8_takeNext_r10 : List Cond), w ∈ wsX8_run := List.forall_mem_cons.mpr ⟨List.mem_of_getElem? (i := 242) rfl, List.forall_mem_cons.mpr ⟨List.mem_of_getElem? (i := 243) rfl, List.forall_mem_cons.mpr ⟨List.mem_of_getElem? (i := 244) rfl, List.forall_mem_cons.mpr ⟨List.mem_of_getElem? (i := 245) rfl, List.forall_mem_cons.mpr ⟨List.mem_of_getElem? (i := 246) rfl, List.forall_mem_cons.mpr ⟨List.mem_of_getElem? (i := 247) rfl, List.forall_mem_cons.mpr ⟨List.mem_of_getElem? (i := 248) rfl, List.forall_mem_cons.mpr ⟨List.mem_of_getElem? (i := 249) rfl, List.forall_mem_cons.mpr ⟨List.mem_of_getElem? (i := 250) rfl, List.forall_mem_cons.mpr ⟨List.mem_of_getElem? (i := 251) rfl, List.forall_mem_cons.mpr ⟨List.mem_of_getElem? (i := 252) rfl, List.forall_mem_cons.mpr ⟨List.mem_of_getElem? (i := 253) rfl, List.forall_mem_cons.mpr ⟨List.mem_of_getElem? (i := 11) rfl, List.forall_mem_cons.mpr ⟨List.mem_of_getElem? (i := 254) rfl, List.forall_mem_cons.mpr ⟨List.mem_of_getElem? (i := 255) rfl, List.forall_mem_cons.mpr ⟨List.mem_of_getElem? (i := 256) rfl, List.forall_mem_cons.mpr ⟨List.mem_of_getElem? (i := 257) rfl, List.forall_mem_cons.mpr ⟨List.mem_of_getElem? (i := 258) rfl, List.forall_mem_cons.mpr ⟨List.mem_of_getElem? (i := 259) rfl, List.forall_mem_cons.mpr ⟨List.mem_of_getElem? (i := 260) rfl, List.forall_mem_cons.mpr ⟨List.mem_of_getElem? (i := 261) rfl, List.forall_mem_cons.mpr ⟨List.mem_of_getElem? (i := 262) rfl, List.forall_mem_cons.mpr ⟨List.mem_of_getElem? (i := 263) rfl, List.forall_mem_cons.mpr ⟨List.mem_of_getElem? (i := 264) rfl, fun _ h => nomatch h⟩⟩⟩⟩⟩⟩⟩⟩⟩⟩⟩⟩⟩⟩⟩⟩⟩⟩⟩⟩⟩⟩⟩⟩
set_option maxRecDepth 20000 in
theorem ggX8_run_X8_takeNext_11 : ∀ w ∈ (wsX8_takeNext_r11 : List Cond), w ∈ wsX8_run := List.forall_mem_cons.mpr ⟨List.mem_of_getElem? (i := 265) rfl, List.forall_mem_cons.mpr ⟨List.mem_of_getElem? (i := 22) rfl, List.forall_mem_cons.mpr ⟨List.mem_of_getElem? (i := 266) rfl, List.forall_mem_cons.mpr ⟨List.mem_of_getElem? (i := 267) rfl, List.forall_mem_cons.mpr ⟨List.mem_of_getElem? (i := 268) rfl, List.forall_mem_cons.mpr ⟨List.mem_of_getElem? (i := 269) rfl, List.forall_mem_cons.mpr ⟨List.mem_of_getElem? (i := 270) rfl, List.forall_mem_cons.mpr ⟨List.mem_of_getElem? (i := 271) rfl, List.forall_mem_cons.mpr ⟨List.mem_of_getElem? (i := 272) rfl, List.forall_mem_cons.mpr ⟨List.mem_of_getElem? (i := 273) rfl, List.forall_mem_cons.mpr ⟨List.mem_of_getElem? (i := 274) rfl, List.forall_mem_cons.mpr ⟨List.mem_of_getElem? (i := 275) rfl, List.forall_mem_cons.mpr ⟨List.mem_of_getElem? (i := 276) rfl, List.forall_mem_cons.mpr ⟨List.mem_of_getElem? (i := 277) rfl, List.forall_mem_cons.mpr ⟨List.mem_of_getElem? (i := 24) rfl, List.forall_mem_cons.mpr ⟨List.mem_of_getElem? (i := 278) rfl, List.forall_mem_cons.mpr ⟨List.mem_of_getElem? (i := 279) rfl, List.forall_mem_cons.mpr ⟨List.mem_of_getElem? (i := 280) rfl, List.forall_mem_cons.mpr ⟨List.mem_of_getElem? (i := 281) rfl, List.forall_mem_cons.mpr ⟨List.mem_of_getElem? (i := 282) rfl, List.forall_mem_cons.mpr ⟨List.mem_of_getElem? (i := 283) rfl, List.forall_mem_cons.mpr ⟨List.mem_of_getElem? (i := 284) rfl, List.forall_mem_cons.mpr ⟨List.mem_of_getElem? (i := 285) rfl, List.forall_mem_cons.mpr ⟨List.mem_of_getElem? (i := 286) rfl, fun _ h => nomatch h⟩⟩⟩⟩⟩⟩⟩⟩⟩⟩⟩⟩⟩⟩⟩⟩⟩⟩⟩⟩⟩⟩⟩⟩
set_option maxRecDepth 20000 in
theorem ggX8_run_X8_takeNext_12 : ∀ w ∈ (wsX8_takeNext_r12 : List Cond), w ∈ wsX8_run := List.forall_mem_cons.mpr ⟨List.mem_of_getElem? (i := 287) rfl, List.forall_mem_cons.mpr ⟨List.mem_of_getElem? (i := 288) rfl, List.forall_mem_cons.mpr ⟨List.mem_of_getElem? (i := 289) rfl, List.forall_mem_cons.mpr ⟨List.mem_of_getElem? (i := 290) rfl, List.forall_mem_cons.mpr ⟨List.mem_of_getElem? (i := 291) rfl, List.forall_mem_cons.mpr ⟨List.mem_of_getElem? (i := 292) rfl, List.forall_mem_cons.mpr ⟨List.mem_of_getElem? (i := 293) rfl, List.forall_mem_cons.mpr ⟨List.mem_of_getElem? (i := 294) rfl, List.forall_mem_cons.mpr ⟨List.mem_of_getElem? (i := 295) rfl, List.forall_mem_cons.mpr ⟨List.mem_of_getElem? (i := 296) rfl, List.forall_mem_cons.mpr ⟨List.mem_of_getElem? (i := 297) rfl, List.forall_mem_cons.mpr ⟨List.mem_of_getElem? (i := 298) rfl, List.forall_mem_cons.mpr ⟨List.mem_of_getElem? (i := 299) rfl, List.forall_mem_cons.mpr ⟨List.mem_of_getElem? (i := 300) rfl, List.forall_mem_cons.mpr ⟨List.mem_of_getElem? (i := 301) rfl, List.forall_mem_cons.mpr ⟨List.mem_of_getElem? (i := 302) rfl, List.forall_mem_cons.mpr ⟨List.mem_of_getElem? (i := 303) rfl, List.forall_mem_cons.mpr ⟨List.mem_of_getElem? (i := 304) rfl, List.forall_mem_cons.mpr ⟨List.mem_of_getElem? (i := 305) rfl, List.forall_mem_cons.mpr ⟨List.mem_of_getElem? (i := 306) rfl, List.forall_mem_cons.mpr ⟨List.mem_of_getElem? (i := 307) rfl, List.forall_mem_cons.mpr ⟨List.mem_of_getElem? (i := 308) rfl, List.forall_mem_cons.mpr ⟨List.mem_of_getElem? (i := 309) rfl, List.forall_mem_cons.mpr ⟨List.mem_of_getElem? (i := 310) rfl, fun _ h => nomatch h⟩⟩⟩⟩⟩⟩⟩⟩⟩⟩⟩⟩⟩⟩⟩⟩⟩⟩⟩⟩⟩⟩⟩⟩
set_option maxRecDepth 20000 in
theorem ggX8_run_X8_takeNext_13 : ∀ w ∈ (wsX8_takeNext_r13 : List Cond), w ∈ wsX8_run := List.forall_mem_cons.mpr ⟨List.mem_of_getElem? (i := 311) rfl, List.forall_mem_cons.mpr ⟨List.mem_of_getElem? (i := 312) rfl, List.forall_mem_cons.mpr ⟨List.mem_of_getElem? (i := 313) rfl, List.forall_mem_cons.mpr ⟨List.mem_of_getElem? (i := 314) rfl, List.forall_mem_cons.mpr ⟨List.mem_of_getElem? (i := 315) rfl, List.forall_mem_cons.mpr ⟨List.mem_of_getElem? (i := 316) rfl, List.forall_mem_cons.mpr ⟨List.mem_of_getElem? (i := 317) rfl, List.forall_mem_cons.mpr ⟨List.mem_of_getElem? (i := 318) rfl, List.forall_mem_cons.mpr ⟨List.mem_of_getElem? (i := 319) rfl, List.forall_mem_cons.mpr ⟨List.mem_of_getElem? (i := 320) rfl, List.forall_mem_cons.mpr ⟨List.mem_of_getElem? (i := 321) rfl, List.forall_mem_cons.mpr ⟨List.mem_of_getElem? (i := 322) rfl, List.forall_mem_cons.mpr ⟨List.mem_of_getElem? (i := 323) rfl, List.forall_mem_cons.mpr ⟨List.mem_of_getElem? (i := 324) rfl, List.forall_mem_cons.mpr ⟨List.mem_of_getElem? (i := 325) rfl, List.forall_mem_cons.mpr ⟨List.mem_of_getElem? (i := 326) rfl, List.forall_mem_cons.mpr ⟨List.mem_of_getElem? (i := 327) rfl, List.forall_mem_cons.mpr ⟨List.mem_of_getElem? (i := 328) rfl, List.forall_mem_cons.mpr ⟨List.mem_of_getElem? (i := 329) rfl, List.forall_mem_cons.mpr ⟨List.mem_of_getElem? (i := 330) rfl, List.forall_mem_cons.mpr ⟨List.mem_of_getElem? (i := 331) rfl, List.forall_mem_cons.mpr ⟨List.mem_of_getElem? (i := 332) rfl, List.forall_mem_cons.mpr ⟨List.mem_of_getElem? (i := 333) rfl, List.forall_mem_cons.mpr ⟨List.mem_of_getElem? (i := 334) rfl, fun _ h => nomatch h⟩⟩⟩⟩⟩⟩⟩⟩⟩⟩⟩⟩⟩⟩⟩⟩⟩⟩⟩⟩⟩⟩⟩⟩
set_option maxRecDepth 20000 in
theorem ggX8_run_X8_takeNext_14 : ∀ w ∈ (wsX8_takeNext_r14 : List Cond), w ∈ wsX8_run := List.forall_mem_cons.mpr ⟨List.mem_of_getElem? (i := 335) rfl, List.forall_mem_cons.mpr ⟨List.mem_of_getElem? (i := 336) rfl, List.forall_mem_cons.mpr ⟨List.mem_of_getElem? (i := 337) rfl, List.forall_mem_cons.mpr ⟨List.mem_of_getElem? (i := 338) rfl, List.forall_mem_cons.mpr ⟨List.mem_of_getElem? (i := 339) rfl, List.forall_mem_cons.mpr ⟨List.mem_of_getElem? (i := 340) rfl, List.forall_mem_cons.mpr ⟨List.mem_of_getElem? (i := 341) rfl, List.forall_mem_cons.mpr ⟨List.mem_of_getElem? (i := 342) rfl, List.forall_mem_cons.mpr ⟨List.mem_of_getElem? (i := 343) rfl, List.forall_mem_cons.mpr ⟨List.mem_of_getElem? (i := 344) rfl, List.forall_mem_cons.mpr ⟨List.mem_of_getElem? (i := 345) rfl, List.forall_mem_cons.mpr ⟨List.mem_of_getElem? (i := 346) rfl, List.forall_mem_cons.mpr ⟨List.mem_of_getElem? (i := 347) rfl, List.forall_mem_cons.mpr ⟨List.mem_of_getElem? (i := 348) rfl, List.forall_mem_cons.mpr ⟨List.mem_of_getElem? (i := 349) rfl, List.forall_mem_cons.mpr ⟨List.mem_of_getElem? (i := 350) rfl, List.forall_mem_cons.mpr ⟨List.mem_of_getElem? (i := 351) rfl, List.forall_mem_cons.mpr ⟨List.mem_of_getElem? (i := 352) rfl, List.forall_mem_cons.mpr ⟨List.mem_of_getElem? (i := 353) rfl, List.forall_mem_cons.mpr ⟨List.mem_of_getElem? (i := 354) rfl, List.forall_mem_cons.mpr ⟨List.mem_of_getElem? (i := 355) rfl, List.forall_mem_cons.mpr ⟨List.mem_of_getElem? (i := 356) rfl, List.forall_mem_cons.mpr ⟨List.mem_of_getElem? (i := 357) rfl, List.forall_mem_cons.mpr ⟨List.mem_of_getElem? (i := 358) rfl, fun _ h => nomatch h⟩⟩⟩⟩⟩⟩⟩⟩⟩⟩⟩⟩⟩⟩⟩⟩⟩⟩⟩⟩⟩⟩⟩⟩
set_option maxRecDepth 20000 in
theorem ggX8_run_X8_takeNext_15 : ∀ w ∈ (wsX8_takeNext_r15 : List Cond), w ∈ wsX8_run := List.forall_mem_cons.mpr ⟨List.mem_of_getElem? (i := 359) rfl, List.forall_mem_cons.mpr ⟨List.mem_of_getElem? (i := 360) rfl, List.forall_mem_cons.mpr ⟨List.mem_of_getElem? (i := 361) rfl, List.forall_mem_cons.mpr ⟨List.mem_of_getElem? (i := 362) rfl, List.forall_mem_cons.mpr ⟨List.mem_of_getElem? (i := 363) rfl, List.forall_mem_cons.mpr ⟨List.mem_of_getElem? (i := 364) rfl, List.forall_mem_cons.mpr ⟨List.mem_of_getElem? (i := 365) rfl, List.forall_mem_cons.mpr ⟨List.mem_of_getElem? (i := 366) rfl, List.forall_mem_cons.mpr ⟨List.mem_of_getElem? (i := 367) rfl, List.forall_mem_cons.mpr ⟨List.mem_of_getElem? (i := 368) rfl, List.forall_mem_cons.mpr ⟨List.mem_of_getElem? (i := 369) rfl, List.forall_mem_cons.mpr ⟨List.mem_of_getElem? (i := 370) rfl, List.forall_mem_cons.mpr ⟨List.mem_of_getElem? (i := 371) rfl, List.forall_mem_cons.mpr ⟨List.mem_of_getElem? (i := 372) rfl, List.forall_mem_cons.mpr ⟨List.mem_of_getElem? (i := 373) rfl, List.forall_mem_cons.mpr ⟨List.mem_of_getElem? (i := 374) rfl, List.forall_mem_cons.mpr ⟨List.mem_of_getElem? (i := 375) rfl, List.forall_mem_cons.mpr ⟨List.mem_of_getElem? (i := 376) rfl, List.forall_mem_cons.mpr ⟨List.mem_of_getElem? (i := 377) rfl, List.forall_mem_cons.mpr ⟨List.mem_of_getElem? (i := 378) rfl, List.forall_mem_cons.mpr ⟨List.mem_of_getElem? (i := 379) rfl, List.forall_mem_cons.mpr ⟨List.mem_of_getElem? (i := 380) rfl, List.forall_mem_cons.mpr ⟨List.mem_of_getElem? (i := 381) rfl, fun _ h => nomatch h⟩⟩⟩⟩⟩⟩⟩⟩⟩⟩⟩⟩⟩⟩⟩⟩⟩⟩⟩⟩⟩⟩⟩
set_option maxRecDepth 20000 in
theorem ggX8_run_X8_takeNext_16 : ∀ w ∈ wsX80, w ∈ wsX8_run := fun w h => List.mem_cons_of_mem _ (List.mem_append_left _ (List.mem_append_left _ (List.mem_append_left _ (List.mem_append_left _ (List.mem_append_left _ (List.mem_append_left _ (List.mem_append_right _ (h))))))))
set_option maxRecDepth 20000 in
theorem ggX8_run_X8_takeNext_17 : ∀ w ∈ wsX30, w ∈ wsX8_run := fun w h => List.mem_cons_of_mem _ (List.mem_append_left _ (List.mem_append_left _ (List.mem_append_left _ (List.mem_append_left _ (List.mem_append_left _ (List.mem_append_right _ (h)))))))
set_option maxRecDepth 20000 in
theorem ggX8_run_X8_takeNext_18 : ∀ w ∈ wsX10, w ∈ wsX8_run := fun w h => List.mem_cons_of_mem _ (List.mem_append_left _ (List.mem_append_left _ (List.mem_append_left _ (List.mem_append_right _ (h)))))
set_option maxRecDepth 20000 in
theorem ggX8_run_X8_takeNext_19 : ∀ w ∈ wsX50, w ∈ wsX8_run := fun w h => List.mem_cons_of_mem _ (List.mem_append_left _ (List.mem_append_left _ (List.mem_append_right _ (h))))
set_option maxRecDepth 20000 in
theorem ggX8_run_X8_takeNext_20 : ∀ w ∈ wsX60, w ∈ wsX8_run := fun w h => List.mem_cons_of_mem _ (List.mem_append_left _ (List.mem_append_right _ (h)))
set_option maxRecDepth 20000 in
theorem ggX8_run_X8_takeNext_21 : ∀ w ∈ wsX00, w ∈ wsX8_run := fun w h => List.mem_cons_of_mem _ (List.mem_append_left _ (List.mem_append_left _ (List.mem_append_left _ (List.mem_append_left _ (List.mem_append_right _ (h))))))
theorem ggX8_run_X8_takeNext_m : ∀ w ∈ wsX8_takeNext, w ∈ wsX8_run := fun w h => (List.mem_cons.mp h).elim (fun e => by rw [e]; exact List.mem_of_getElem? (i := 36) rfl) (fun h => (List.mem_append.mp h).elim (fun h => (List.mem_append.mp h).elim (fun h => (List.mem_append.mp h).elim (fun h => (List.mem_append.mp h).elim (fun h => (List.mem_append.mp h).elim (fun h => (List.mem_append.mp h).elim (fun h => (List.mem_append.mp h).elim (fun h => ggX8_run_X8_takeNext_1 w h) (fun h => (List.mem_append.mp h).elim (fun h => ggX8_run_X8_takeNext_2 w h) (fun h => (List.mem_append.mp h).elim (fun h => ggX8_run_X8_takeNext_3 w h) (fun h => (List.mem_append.mp h).elim (fun h => ggX8_run_X8_takeNext_4 w h) (fun h => (List.mem_append.mp h).elim (fun h => ggX8_run_X8_takeNext_5 w h) (fun h => (List.mem_append.mp h).elim (fun h => ggX8_run_X8_takeNext_6 w h) (fun h => (List.mem_append.mp h).elim (fun h => ggX8_run_X8_takeNext_7 w h) (fun h => (List.mem_append.mp h).elim (fun h => ggX8_run_X8_takeNext_8 w h) (fun h => (List.mem_append.mp h).elim (fun h => ggX8_run_X8_takeNext_9 w h) (fun h => (List.mem_append.mp h).elim (fun h => ggX8_run_X8_takeNext_10 w h) (fun h => (List.mem_append.mp h).elim (fun h => ggX8_run_X8_takeNext_11 w h) (fun h => (List.mem_append.mp h).elim (fun h => ggX8_run_X8_takeNext_12 w h) (fun h => (List.mem_append.mp h).elim (fun h => ggX8_run_X8_takeNext_13 w h) (fun h => (List.mem_append.mp h).elim (fun h => ggX8_run_X8_takeNext_14 w h) (fun h => ggX8_run_X8_takeNext_15 w h))))))))))))))) (fun h => ggX8_run_X8_takeNext_16 w h)) (fun h => ggX8_run_X8_takeNext_17 w h)) (fun h => ggX8_run_X8_takeNext_18 w h)) (fun h => ggX8_run_X8_takeNext_19 w h)) (fun h => ggX8_run_X8_takeNext_20 w h)) (fun h => ggX8_run_X8_takeNext_21 w h))
set_option maxRecDepth 20000 in
theorem ggX8_run_X8_takeNext : GoodIn wsX8_run wsX8_takeNext := goodIn_sub ggX8_run_X8_takeNext_m (by decide +kernel)
set_option maxRecDepth 20000 in
theorem ggX8_run_X0_countCycles_1 : ∀ w ∈ ([.fieldLink RX0 28 "ScoreboardCore$Board" "counted" "J", .fieldLink RX0 45 "ScoreboardCore$Board" "last" "I"] : List Cond), w ∈ wsX8_run := List.forall_mem_cons.mpr ⟨List.mem_of_getElem? (i := 386) rfl, List.forall_mem_cons.mpr ⟨List.mem_of_getElem? (i := 27) rfl, fun _ h => nomatch h⟩⟩
set_option maxRecDepth 20000 in
theorem ggX8_run_X0_countCycles_2 : ∀ w ∈ wsX00, w ∈ wsX8_run := fun w h => List.mem_cons_of_mem _ (List.mem_append_left _ (List.mem_append_left _ (List.mem_append_left _ (List.mem_append_left _ (List.mem_append_right _ (h))))))
theorem ggX8_run_X0_countCycles_m : ∀ w ∈ wsX0_countCycles, w ∈ wsX8_run := fun w h => (List.mem_cons.mp h).elim (fun e => by rw [e]; exact List.mem_of_getElem? (i := 385) rfl) (fun h => (List.mem_append.mp h).elim (fun h => ggX8_run_X0_countCycles_1 w h) (fun h => ggX8_run_X0_countCycles_2 w h))
set_option maxRecDepth 20000 in
theorem ggX8_run_X0_countCycles : GoodIn wsX8_run wsX0_countCycles := goodIn_sub ggX8_run_X0_countCycles_m (by decide +kernel)
theorem dX8_run_0 : decode cX8_run 0 = .ok (.iload_n 1, 1) := by decide +kernel
theorem dX8_run_1 : decode cX8_run 1 = .ok (.ifCond .lt 10, 3) := by decide +kernel
theorem dX8_run_4 : decode cX8_run 4 = .ok (.iload_n 1, 1) := by decide +kernel
theorem dX8_run_5 : decode cX8_run 5 = .ok (.sipush 2000, 3) := by decide +kernel
theorem dX8_run_8 : decode cX8_run 8 = .ok (.if_icmp .le 11, 3) := by decide +kernel
theorem dX8_run_11 : decode cX8_run 11 = .ok (.new 68, 3) := by decide +kernel
theorem dX8_run_14 : decode cX8_run 14 = .ok (.dup, 1) := by decide +kernel
theorem dX8_run_15 : decode cX8_run 15 = .ok (.invokespecial 70, 3) := by decide +kernel
theorem dX8_run_18 : decode cX8_run 18 = .ok (.athrow, 1) := by decide +kernel
theorem dX8_run_19 : decode cX8_run 19 = .ok (.aload_n 0, 1) := by decide +kernel
theorem dX8_run_20 : decode cX8_run 20 = .ok (.getfield 10, 3) := by decide +kernel
theorem dX8_run_23 : decode cX8_run 23 = .ok (.invokevirtual 75, 3) := by decide +kernel
theorem dX8_run_26 : decode cX8_run 26 = .ok (.aload_n 0, 1) := by decide +kernel
theorem dX8_run_27 : decode cX8_run 27 = .ok (.getfield 26, 3) := by decide +kernel
theorem dX8_run_30 : decode cX8_run 30 = .ok (.invokevirtual 78, 3) := by decide +kernel
theorem dX8_run_33 : decode cX8_run 33 = .ok (.iconst 0, 1) := by decide +kernel
theorem dX8_run_34 : decode cX8_run 34 = .ok (.istore_n 2, 1) := by decide +kernel
theorem dX8_run_35 : decode cX8_run 35 = .ok (.iconst 0, 1) := by decide +kernel
theorem dX8_run_36 : decode cX8_run 36 = .ok (.istore_n 3, 1) := by decide +kernel
theorem dX8_run_37 : decode cX8_run 37 = .ok (.iload_n 3, 1) := by decide +kernel
theorem dX8_run_38 : decode cX8_run 38 = .ok (.iload_n 1, 1) := by decide +kernel
theorem dX8_run_39 : decode cX8_run 39 = .ok (.if_icmp .ge 27, 3) := by decide +kernel
theorem dX8_run_42 : decode cX8_run 42 = .ok (.aload_n 0, 1) := by decide +kernel
theorem dX8_run_43 : decode cX8_run 43 = .ok (.getfield 44, 3) := by decide +kernel
theorem dX8_run_46 : decode cX8_run 46 = .ok (.iconst 3, 1) := by decide +kernel
theorem dX8_run_47 : decode cX8_run 47 = .ok (.if_icmp .ne 19, 3) := by decide +kernel
theorem dX8_run_50 : decode cX8_run 50 = .ok (.aload_n 0, 1) := by decide +kernel
theorem dX8_run_51 : decode cX8_run 51 = .ok (.invokevirtual 81, 3) := by decide +kernel
theorem dX8_run_54 : decode cX8_run 54 = .ok (.ifCond .eq 6, 3) := by decide +kernel
theorem dX8_run_57 : decode cX8_run 57 = .ok (.iinc 2 1, 3) := by decide +kernel
theorem dX8_run_60 : decode cX8_run 60 = .ok (.iinc 3 1, 3) := by decide +kernel
theorem dX8_run_63 : decode cX8_run 63 = .ok (.goto (-26), 3) := by decide +kernel
theorem dX8_run_66 : decode cX8_run 66 = .ok (.aload_n 0, 1) := by decide +kernel
theorem dX8_run_67 : decode cX8_run 67 = .ok (.getfield 26, 3) := by decide +kernel
theorem dX8_run_70 : decode cX8_run 70 = .ok (.invokevirtual 85, 3) := by decide +kernel
theorem dX8_run_73 : decode cX8_run 73 = .ok (.iload_n 2, 1) := by decide +kernel
theorem dX8_run_74 : decode cX8_run 74 = .ok (.ireturn, 1) := by decide +kernel
theorem dX8_stopped_0 : decode cX8_stopped 0 = .ok (.aload_n 0, 1) := by decide +kernel
theorem dX8_stopped_1 : decode cX8_stopped 1 = .ok (.getfield 44, 3) := by decide +kernel
theorem dX8_stopped_4 : decode cX8_stopped 4 = .ok (.ireturn, 1) := by decide +kernel
theorem dX8_place_0 : decode cX8_place 0 = .ok (.iconst 4, 1) := by decide +kernel
theorem dX8_place_1 : decode cX8_place 1 = .ok (.aload_n 0, 1) := by decide +kernel
theorem dX8_place_2 : decode cX8_place 2 = .ok (.getfield 37, 3) := by decide +kernel
theorem dX8_place_5 : decode cX8_place 5 = .ok (.imul, 1) := by decide +kernel
theorem dX8_place_6 : decode cX8_place 6 = .ok (.aload_n 0, 1) := by decide +kernel
theorem dX8_place_7 : decode cX8_place 7 = .ok (.getfield 41, 3) := by decide +kernel
theorem dX8_place_10 : decode cX8_place 10 = .ok (.iadd, 1) := by decide +kernel
theorem dX8_place_11 : decode cX8_place 11 = .ok (.ireturn, 1) := by decide +kernel
set_option maxRecDepth 20000 in
theorem ggX8_cycles_X0_cyclesCounted_1 : ∀ w ∈ ([.fieldLink RX0 28 "ScoreboardCore$Board" "counted" "J"] : List Cond), w ∈ wsX8_cycles := List.forall_mem_cons.mpr ⟨List.mem_of_getElem? (i := 7) rfl, fun _ h => nomatch h⟩
set_option maxRecDepth 20000 in
theorem ggX8_cycles_X0_cyclesCounted_2 : ∀ w ∈ wsX00, w ∈ wsX8_cycles := fun w h => List.mem_cons_of_mem _ (List.mem_append_right _ (h))
theorem ggX8_cycles_X0_cyclesCounted_m : ∀ w ∈ wsX0_cyclesCounted, w ∈ wsX8_cycles := fun w h => (List.mem_cons.mp h).elim (fun e => by rw [e]; exact List.mem_of_getElem? (i := 6) rfl) (fun h => (List.mem_append.mp h).elim (fun h => ggX8_cycles_X0_cyclesCounted_1 w h) (fun h => ggX8_cycles_X0_cyclesCounted_2 w h))
set_option maxRecDepth 20000 in
theorem ggX8_cycles_X0_cyclesCounted : GoodIn wsX8_cycles wsX0_cyclesCounted := goodIn_sub ggX8_cycles_X0_cyclesCounted_m (by decide +kernel)
theorem dX8_cycles_0 : decode cX8_cycles 0 = .ok (.aload_n 0, 1) := by decide +kernel
theorem dX8_cycles_1 : decode cX8_cycles 1 = .ok (.getfield 26, 3) := by decide +kernel
theorem dX8_cycles_4 : decode cX8_cycles 4 = .ok (.invokevirtual 88, 3) := by decide +kernel
theorem dX8_cycles_7 : decode cX8_cycles 7 = .ok (.lreturn, 1) := by decide +kernel
set_option maxRecDepth 20000 in
theorem ggX8_done_X0_doneBy_1 : ∀ w ∈ ([.fieldLink RX0 11 "ScoreboardCore$Board" "doneCounts" "[I"] : List Cond), w ∈ wsX8_done := List.forall_mem_cons.mpr ⟨List.mem_of_getElem? (i := 9) rfl, fun _ h => nomatch h⟩
set_option maxRecDepth 20000 in
theorem ggX8_done_X0_doneBy_2 : ∀ w ∈ wsX00, w ∈ wsX8_done := fun w h => List.mem_cons_of_mem _ (List.mem_append_left _ (List.mem_append_right _ (h)))
theorem ggX8_done_X0_doneBy_m : ∀ w ∈ wsX0_doneBy, w ∈ wsX8_done := fun w h => (List.mem_cons.mp h).elim (fun e => by rw [e]; exact List.mem_of_getElem? (i := 8) rfl) (fun h => (List.mem_append.mp h).elim (fun h => ggX8_done_X0_doneBy_1 w h) (fun h => ggX8_done_X0_doneBy_2 w h))
set_option maxRecDepth 20000 in
theorem ggX8_done_X0_doneBy : GoodIn wsX8_done wsX0_doneBy := goodIn_sub ggX8_done_X0_doneBy_m (by decide +kernel)
theorem dX8_done_0 : decode cX8_done 0 = .ok (.iload_n 1, 1) := by decide +kernel
theorem dX8_done_1 : decode cX8_done 1 = .ok (.ifCond .lt 9, 3) := by decide +kernel
theorem dX8_done_4 : decode cX8_done 4 = .ok (.iload_n 1, 1) := by decide +kernel
theorem dX8_done_5 : decode cX8_done 5 = .ok (.bipush 8, 2) := by decide +kernel
theorem dX8_done_7 : decode cX8_done 7 = .ok (.if_icmp .lt 11, 3) := by decide +kernel
theorem dX8_done_10 : decode cX8_done 10 = .ok (.new 68, 3) := by decide +kernel
theorem dX8_done_13 : decode cX8_done 13 = .ok (.dup, 1) := by decide +kernel
theorem dX8_done_14 : decode cX8_done 14 = .ok (.invokespecial 70, 3) := by decide +kernel
theorem dX8_done_17 : decode cX8_done 17 = .ok (.athrow, 1) := by decide +kernel
theorem dX8_done_18 : decode cX8_done 18 = .ok (.aload_n 0, 1) := by decide +kernel
theorem dX8_done_19 : decode cX8_done 19 = .ok (.getfield 26, 3) := by decide +kernel
theorem dX8_done_22 : decode cX8_done 22 = .ok (.iload_n 1, 1) := by decide +kernel
theorem dX8_done_23 : decode cX8_done 23 = .ok (.invokevirtual 92, 3) := by decide +kernel
theorem dX8_done_26 : decode cX8_done 26 = .ok (.ireturn, 1) := by decide +kernel
set_option maxRecDepth 20000 in
theorem ggX8_waited_X0_waitedFor_1 : ∀ w ∈ ([.fieldLink RX0 15 "ScoreboardCore$Board" "waitCounts" "[J"] : List Cond), w ∈ wsX8_waited := List.forall_mem_cons.mpr ⟨List.mem_of_getElem? (i := 9) rfl, fun _ h => nomatch h⟩
set_option maxRecDepth 20000 in
theorem ggX8_waited_X0_waitedFor_2 : ∀ w ∈ wsX00, w ∈ wsX8_waited := fun w h => List.mem_cons_of_mem _ (List.mem_append_left _ (List.mem_append_right _ (h)))
theorem ggX8_waited_X0_waitedFor_m : ∀ w ∈ wsX0_waitedFor, w ∈ wsX8_waited := fun w h => (List.mem_cons.mp h).elim (fun e => by rw [e]; exact List.mem_of_getElem? (i := 8) rfl) (fun h => (List.mem_append.mp h).elim (fun h => ggX8_waited_X0_waitedFor_1 w h) (fun h => ggX8_waited_X0_waitedFor_2 w h))
set_option maxRecDepth 20000 in
theorem ggX8_waited_X0_waitedFor : GoodIn wsX8_waited wsX0_waitedFor := goodIn_sub ggX8_waited_X0_waitedFor_m (by decide +kernel)
theorem dX8_waited_0 : decode cX8_waited 0 = .ok (.iload_n 1, 1) := by decide +kernel
theorem dX8_waited_1 : decode cX8_waited 1 = .ok (.ifCond .lt 8, 3) := by decide +kernel
theorem dX8_waited_4 : decode cX8_waited 4 = .ok (.iload_n 1, 1) := by decide +kernel
theorem dX8_waited_5 : decode cX8_waited 5 = .ok (.iconst 5, 1) := by decide +kernel
theorem dX8_waited_6 : decode cX8_waited 6 = .ok (.if_icmp .lt 11, 3) := by decide +kernel
theorem dX8_waited_9 : decode cX8_waited 9 = .ok (.new 68, 3) := by decide +kernel
theorem dX8_waited_12 : decode cX8_waited 12 = .ok (.dup, 1) := by decide +kernel
theorem dX8_waited_13 : decode cX8_waited 13 = .ok (.invokespecial 70, 3) := by decide +kernel
theorem dX8_waited_16 : decode cX8_waited 16 = .ok (.athrow, 1) := by decide +kernel
theorem dX8_waited_17 : decode cX8_waited 17 = .ok (.aload_n 0, 1) := by decide +kernel
theorem dX8_waited_18 : decode cX8_waited 18 = .ok (.getfield 26, 3) := by decide +kernel
theorem dX8_waited_21 : decode cX8_waited 21 = .ok (.iload_n 1, 1) := by decide +kernel
theorem dX8_waited_22 : decode cX8_waited 22 = .ok (.invokevirtual 96, 3) := by decide +kernel
theorem dX8_waited_25 : decode cX8_waited 25 = .ok (.lreturn, 1) := by decide +kernel
set_option maxRecDepth 20000 in
theorem ggX8_takeNext_X3_programWord_1 : ∀ w ∈ ([.fieldLink RX3 15 "ScoreboardCore$Memory" "program" "[J", .methodLink RX3 18 yX3_holds, .static yX3_holds, .initialized RX3, .code yX3_holds cX3_holds 1 (some .boolean)] : List Cond), w ∈ wsX8_takeNext := List.forall_mem_cons.mpr ⟨List.mem_of_getElem? (i := 13) rfl, List.forall_mem_cons.mpr ⟨List.mem_of_getElem? (i := 14) rfl, List.forall_mem_cons.mpr ⟨List.mem_of_getElem? (i := 15) rfl, List.forall_mem_cons.mpr ⟨List.mem_of_getElem? (i := 11) rfl, List.forall_mem_cons.mpr ⟨List.mem_of_getElem? (i := 16) rfl, fun _ h => nomatch h⟩⟩⟩⟩⟩
set_option maxRecDepth 20000 in
theorem ggX8_takeNext_X3_programWord_2 : ∀ w ∈ wsX30, w ∈ wsX8_takeNext := fun w h => List.mem_cons_of_mem _ (List.mem_append_left _ (List.mem_append_left _ (List.mem_append_left _ (List.mem_append_left _ (List.mem_append_right _ (h))))))
theorem ggX8_takeNext_X3_programWord_m : ∀ w ∈ wsX3_programWord, w ∈ wsX8_takeNext := fun w h => (List.mem_cons.mp h).elim (fun e => by rw [e]; exact List.mem_of_getElem? (i := 12) rfl) (fun h => (List.mem_append.mp h).elim (fun h => ggX8_takeNext_X3_programWord_1 w h) (fun h => ggX8_takeNext_X3_programWord_2 w h))
set_option maxRecDepth 20000 in
theorem ggX8_takeNext_X3_programWord : GoodIn wsX8_takeNext wsX3_programWord := goodIn_sub ggX8_takeNext_X3_programWord_m (by decide +kernel)
set_option maxRecDepth 20000 in
theorem ggX8_takeNext_X1_decode_1 : ∀ w ∈ (wsX1_decode_r1 : List Cond), w ∈ wsX8_takeNext := List.forall_mem_cons.mpr ⟨List.mem_of_getElem? (i := 22) rfl, List.forall_mem_cons.mpr ⟨List.mem_of_getElem? (i := 23) rfl, List.forall_mem_cons.mpr ⟨List.mem_of_getElem? (i := 24) rfl, List.forall_mem_cons.mpr ⟨List.mem_of_getElem? (i := 25) rfl, List.forall_mem_cons.mpr ⟨List.mem_of_getElem? (i := 26) rfl, List.forall_mem_cons.mpr ⟨List.mem_of_getElem? (i := 27) rfl, List.forall_mem_cons.mpr ⟨List.mem_of_getElem? (i := 28) rfl, List.forall_mem_cons.mpr ⟨List.mem_of_getElem? (i := 29) rfl, List.forall_mem_cons.mpr ⟨List.mem_of_getElem? (i := 30) rfl, List.forall_mem_cons.mpr ⟨List.mem_of_getElem? (i := 31) rfl, List.forall_mem_cons.mpr ⟨List.mem_of_getElem? (i := 32) rfl, List.forall_mem_cons.mpr ⟨List.mem_of_getElem? (i := 33) rfl, List.forall_mem_cons.mpr ⟨List.mem_of_getElem? (i := 20) rfl, List.forall_mem_cons.mpr ⟨List.mem_of_getElem? (i := 34) rfl, List.forall_mem_cons.mpr ⟨List.mem_of_getElem? (i := 35) rfl, List.forall_mem_cons.mpr ⟨List.mem_of_getElem? (i := 36) rfl, List.forall_mem_cons.mpr ⟨List.mem_of_getElem? (i := 37) rfl, List.forall_mem_cons.mpr ⟨List.mem_of_getElem? (i := 38) rfl, List.forall_mem_cons.mpr ⟨List.mem_of_getElem? (i := 39) rfl, List.forall_mem_cons.mpr ⟨List.mem_of_getElem? (i := 40) rfl, List.forall_mem_cons.mpr ⟨List.mem_of_getElem? (i := 41) rfl, List.forall_mem_cons.mpr ⟨List.mem_of_getElem? (i := 42) rfl, List.forall_mem_cons.mpr ⟨List.mem_of_getElem? (i := 43) rfl, List.forall_mem_cons.mpr ⟨List.mem_of_getElem? (i := 44) rfl, fun _ h => nomatch h⟩⟩⟩⟩⟩⟩⟩⟩⟩⟩⟩⟩⟩⟩⟩⟩⟩⟩⟩⟩⟩⟩⟩⟩
set_option maxRecDepth 20000 in
theorem ggX8_takeNext_X1_decode_2 : ∀ w ∈ (wsX1_decode_r2 : List Cond), w ∈ wsX8_takeNext := List.forall_mem_cons.mpr ⟨List.mem_of_getElem? (i := 45) rfl, List.forall_mem_cons.mpr ⟨List.mem_of_getElem? (i := 46) rfl, List.forall_mem_cons.mpr ⟨List.mem_of_getElem? (i := 47) rfl, List.forall_mem_cons.mpr ⟨List.mem_of_getElem? (i := 48) rfl, List.forall_mem_cons.mpr ⟨List.mem_of_getElem? (i := 49) rfl, List.forall_mem_cons.mpr ⟨List.mem_of_getElem? (i := 50) rfl, List.forall_mem_cons.mpr ⟨List.mem_of_getElem? (i := 51) rfl, List.forall_mem_cons.mpr ⟨List.mem_of_getElem? (i := 52) rfl, List.forall_mem_cons.mpr ⟨List.mem_of_getElem? (i := 53) rfl, List.forall_mem_cons.mpr ⟨List.mem_of_getElem? (i := 54) rfl, List.forall_mem_cons.mpr ⟨List.mem_of_getElem? (i := 55) rfl, List.forall_mem_cons.mpr ⟨List.mem_of_getElem? (i := 56) rfl, List.forall_mem_cons.mpr ⟨List.mem_of_getElem? (i := 57) rfl, List.forall_mem_cons.mpr ⟨List.mem_of_getElem? (i := 58) rfl, List.forall_mem_cons.mpr ⟨List.mem_of_getElem? (i := 59) rfl, List.forall_mem_cons.mpr ⟨List.mem_of_getElem? (i := 60) rfl, List.forall_mem_cons.mpr ⟨List.mem_of_getElem? (i := 61) rfl, List.forall_mem_cons.mpr ⟨List.mem_of_getElem? (i := 62) rfl, List.forall_mem_cons.mpr ⟨List.mem_of_getElem? (i := 63) rfl, List.forall_mem_cons.mpr ⟨List.mem_of_getElem? (i := 64) rfl, List.forall_mem_cons.mpr ⟨List.mem_of_getElem? (i := 65) rfl, List.forall_mem_cons.mpr ⟨List.mem_of_getElem? (i := 66) rfl, List.forall_mem_cons.mpr ⟨List.mem_of_getElem? (i := 67) rfl, List.forall_mem_cons.mpr ⟨List.mem_of_getElem? (i := 68) rfl, fun _ h => nomatch h⟩⟩⟩⟩⟩⟩⟩⟩⟩⟩⟩⟩⟩⟩⟩⟩⟩⟩⟩⟩⟩⟩⟩⟩
set_option maxRecDepth 20000 in
theorem ggX8_takeNext_X1_decode_3 : ∀ w ∈ (wsX1_decode_r3 : List Cond), w ∈ wsX8_takeNext := List.forall_mem_cons.mpr ⟨List.mem_of_getElem? (i := 69) rfl, List.forall_mem_cons.mpr ⟨List.mem_of_getElem? (i := 70) rfl, List.forall_mem_cons.mpr ⟨List.mem_of_getElem? (i := 71) rfl, List.forall_mem_cons.mpr ⟨List.mem_of_getElem? (i := 72) rfl, List.forall_mem_cons.mpr ⟨List.mem_of_getElem? (i := 73) rfl, List.forall_mem_cons.mpr ⟨List.mem_of_getElem? (i := 74) rfl, List.forall_mem_cons.mpr ⟨List.mem_of_getElem? (i := 75) rfl, List.forall_mem_cons.mpr ⟨List.mem_of_getElem? (i := 76) rfl, List.forall_mem_cons.mpr ⟨List.mem_of_getElem? (i := 77) rfl, List.forall_mem_cons.mpr ⟨List.mem_of_getElem? (i := 78) rfl, List.forall_mem_cons.mpr ⟨List.mem_of_getElem? (i := 79) rfl, List.forall_mem_cons.mpr ⟨List.mem_of_getElem? (i := 80) rfl, List.forall_mem_cons.mpr ⟨List.mem_of_getElem? (i := 81) rfl, List.forall_mem_cons.mpr ⟨List.mem_of_getElem? (i := 82) rfl, List.forall_mem_cons.mpr ⟨List.mem_of_getElem? (i := 83) rfl, List.forall_mem_cons.mpr ⟨List.mem_of_getElem? (i := 84) rfl, List.forall_mem_cons.mpr ⟨List.mem_of_getElem? (i := 85) rfl, List.forall_mem_cons.mpr ⟨List.mem_of_getElem? (i := 86) rfl, List.forall_mem_cons.mpr ⟨List.mem_of_getElem? (i := 87) rfl, List.forall_mem_cons.mpr ⟨List.mem_of_getElem? (i := 88) rfl, List.forall_mem_cons.mpr ⟨List.mem_of_getElem? (i := 89) rfl, List.forall_mem_cons.mpr ⟨List.mem_of_getElem? (i := 90) rfl, List.forall_mem_cons.mpr ⟨List.mem_of_getElem? (i := 91) rfl, List.forall_mem_cons.mpr ⟨List.mem_of_getElem? (i := 92) rfl, fun _ h => nomatch h⟩⟩⟩⟩⟩⟩⟩⟩⟩⟩⟩⟩⟩⟩⟩⟩⟩⟩⟩⟩⟩⟩⟩⟩
set_option maxRecDepth 20000 in
theorem ggX8_takeNext_X1_decode_4 : ∀ w ∈ (wsX1_decode_r4 : List Cond), w ∈ wsX8_takeNext := List.forall_mem_cons.mpr ⟨List.mem_of_getElem? (i := 93) rfl, List.forall_mem_cons.mpr ⟨List.mem_of_getElem? (i := 94) rfl, List.forall_mem_cons.mpr ⟨List.mem_of_getElem? (i := 95) rfl, List.forall_mem_cons.mpr ⟨List.mem_of_getElem? (i := 96) rfl, List.forall_mem_cons.mpr ⟨List.mem_of_getElem? (i := 97) rfl, fun _ h => nomatch h⟩⟩⟩⟩⟩
set_option maxRecDepth 20000 in
theorem ggX8_takeNext_X1_decode_5 : ∀ w ∈ wsX10, w ∈ wsX8_takeNext := fun w h => List.mem_cons_of_mem _ (List.mem_append_left _ (List.mem_append_left _ (List.mem_append_left _ (List.mem_append_right _ (h)))))
set_option maxRecDepth 20000 in
theorem ggX8_takeNext_X1_decode_6 : ∀ w ∈ wsX50, w ∈ wsX8_takeNext := fun w h => List.mem_cons_of_mem _ (List.mem_append_left _ (List.mem_append_left _ (List.mem_append_right _ (h))))
theorem ggX8_takeNext_X1_decode_m : ∀ w ∈ wsX1_decode, w ∈ wsX8_takeNext := fun w h => (List.mem_cons.mp h).elim (fun e => by rw [e]; exact List.mem_of_getElem? (i := 21) rfl) (fun h => (List.mem_append.mp h).elim (fun h => (List.mem_append.mp h).elim (fun h => (List.mem_append.mp h).elim (fun h => ggX8_takeNext_X1_decode_1 w h) (fun h => (List.mem_append.mp h).elim (fun h => ggX8_takeNext_X1_decode_2 w h) (fun h => (List.mem_append.mp h).elim (fun h => ggX8_takeNext_X1_decode_3 w h) (fun h => ggX8_takeNext_X1_decode_4 w h)))) (fun h => ggX8_takeNext_X1_decode_5 w h)) (fun h => ggX8_takeNext_X1_decode_6 w h))
set_option maxRecDepth 20000 in
theorem ggX8_takeNext_X1_decode : GoodIn wsX8_takeNext wsX1_decode := goodIn_sub ggX8_takeNext_X1_decode_m (by decide +kernel)
set_option maxRecDepth 20000 in
theorem ggX8_takeNext_X1_stopCode_1 : ∀ w ∈ ([.fieldLink RX1 25 "ScoreboardCore$Instruction" "op" "I", .fieldLink RX1 45 "ScoreboardCore$Instruction" "unit" "I", .fieldLink RX1 28 "ScoreboardCore$Instruction" "i" "I", .fieldLink RX1 21 "ScoreboardCore$Instruction" "parcelsLeft" "I", .methodLink RX1 57 yX1_isJump, .instanceMethod yX1_isJump, .selects RX1 yX1_isJump yX1_isJump, .initialized RX1, .code yX1_isJump cX1_isJump 1 (some .boolean), .methodLink RX1 61 yX1_parcels, .instanceMethod yX1_parcels, .selects RX1 yX1_parcels yX1_parcels, .code yX1_parcels cX1_parcels 2 (some .int)] : List Cond), w ∈ wsX8_takeNext := List.forall_mem_cons.mpr ⟨List.mem_of_getElem? (i := 23) rfl, List.forall_mem_cons.mpr ⟨List.mem_of_getElem? (i := 29) rfl, List.forall_mem_cons.mpr ⟨List.mem_of_getElem? (i := 24) rfl, List.forall_mem_cons.mpr ⟨List.mem_of_getElem? (i := 22) rfl, List.forall_mem_cons.mpr ⟨List.mem_of_getElem? (i := 78) rfl, List.forall_mem_cons.mpr ⟨List.mem_of_getElem? (i := 79) rfl, List.forall_mem_cons.mpr ⟨List.mem_of_getElem? (i := 80) rfl, List.forall_mem_cons.mpr ⟨List.mem_of_getElem? (i := 20) rfl, List.forall_mem_cons.mpr ⟨List.mem_of_getElem? (i := 81) rfl, List.forall_mem_cons.mpr ⟨List.mem_of_getElem? (i := 74) rfl, List.forall_mem_cons.mpr ⟨List.mem_of_getElem? (i := 75) rfl, List.forall_mem_cons.mpr ⟨List.mem_of_getElem? (i := 76) rfl, List.forall_mem_cons.mpr ⟨List.mem_of_getElem? (i := 77) rfl, fun _ h => nomatch h⟩⟩⟩⟩⟩⟩⟩⟩⟩⟩⟩⟩⟩
set_option maxRecDepth 20000 in
theorem ggX8_takeNext_X1_stopCode_2 : ∀ w ∈ wsX10, w ∈ wsX8_takeNext := fun w h => List.mem_cons_of_mem _ (List.mem_append_left _ (List.mem_append_left _ (List.mem_append_left _ (List.mem_append_right _ (h)))))
theorem ggX8_takeNext_X1_stopCode_m : ∀ w ∈ wsX1_stopCode, w ∈ wsX8_takeNext := fun w h => (List.mem_cons.mp h).elim (fun e => by rw [e]; exact List.mem_of_getElem? (i := 101) rfl) (fun h => (List.mem_append.mp h).elim (fun h => ggX8_takeNext_X1_stopCode_1 w h) (fun h => ggX8_takeNext_X1_stopCode_2 w h))
set_option maxRecDepth 20000 in
theorem ggX8_takeNext_X1_stopCode : GoodIn wsX8_takeNext wsX1_stopCode := goodIn_sub ggX8_takeNext_X1_stopCode_m (by decide +kernel)
set_option maxRecDepth 20000 in
theorem ggX8_takeNext_X1_isJump_1 : ∀ w ∈ ([.fieldLink RX1 25 "ScoreboardCore$Instruction" "op" "I"] : List Cond), w ∈ wsX8_takeNext := List.forall_mem_cons.mpr ⟨List.mem_of_getElem? (i := 23) rfl, fun _ h => nomatch h⟩
set_option maxRecDepth 20000 in
theorem ggX8_takeNext_X1_isJump_2 : ∀ w ∈ wsX10, w ∈ wsX8_takeNext := fun w h => List.mem_cons_of_mem _ (List.mem_append_left _ (List.mem_append_left _ (List.mem_append_left _ (List.mem_append_right _ (h)))))
theorem ggX8_takeNext_X1_isJump_m : ∀ w ∈ wsX1_isJump, w ∈ wsX8_takeNext := fun w h => (List.mem_cons.mp h).elim (fun e => by rw [e]; exact List.mem_of_getElem? (i := 81) rfl) (fun h => (List.mem_append.mp h).elim (fun h => ggX8_takeNext_X1_isJump_1 w h) (fun h => ggX8_takeNext_X1_isJump_2 w h))
set_option maxRecDepth 20000 in
theorem ggX8_takeNext_X1_isJump : GoodIn wsX8_takeNext wsX1_isJump := goodIn_sub ggX8_takeNext_X1_isJump_m (by decide +kernel)
set_option maxRecDepth 20000 in
theorem ggX8_takeNext_X8_takeJump_1 : ∀ w ∈ (wsX8_takeJump_r1 : List Cond), w ∈ wsX8_takeNext := List.forall_mem_cons.mpr ⟨List.mem_of_getElem? (i := 1) rfl, List.forall_mem_cons.mpr ⟨List.mem_of_getElem? (i := 7) rfl, List.forall_mem_cons.mpr ⟨List.mem_of_getElem? (i := 6) rfl, List.forall_mem_cons.mpr ⟨List.mem_of_getElem? (i := 2) rfl, List.forall_mem_cons.mpr ⟨List.mem_of_getElem? (i := 3) rfl, List.forall_mem_cons.mpr ⟨List.mem_of_getElem? (i := 108) rfl, List.forall_mem_cons.mpr ⟨List.mem_of_getElem? (i := 109) rfl, List.forall_mem_cons.mpr ⟨List.mem_of_getElem? (i := 110) rfl, List.forall_mem_cons.mpr ⟨List.mem_of_getElem? (i := 111) rfl, List.forall_mem_cons.mpr ⟨List.mem_of_getElem? (i := 112) rfl, List.forall_mem_cons.mpr ⟨List.mem_of_getElem? (i := 113) rfl, List.forall_mem_cons.mpr ⟨List.mem_of_getElem? (i := 114) rfl, List.forall_mem_cons.mpr ⟨List.mem_of_getElem? (i := 20) rfl, List.forall_mem_cons.mpr ⟨List.mem_of_getElem? (i := 115) rfl, List.forall_mem_cons.mpr ⟨List.mem_of_getElem? (i := 23) rfl, List.forall_mem_cons.mpr ⟨List.mem_of_getElem? (i := 116) rfl, List.forall_mem_cons.mpr ⟨List.mem_of_getElem? (i := 117) rfl, List.forall_mem_cons.mpr ⟨List.mem_of_getElem? (i := 118) rfl, List.forall_mem_cons.mpr ⟨List.mem_of_getElem? (i := 119) rfl, List.forall_mem_cons.mpr ⟨List.mem_of_getElem? (i := 24) rfl, List.forall_mem_cons.mpr ⟨List.mem_of_getElem? (i := 120) rfl, List.forall_mem_cons.mpr ⟨List.mem_of_getElem? (i := 121) rfl, List.forall_mem_cons.mpr ⟨List.mem_of_getElem? (i := 122) rfl, List.forall_mem_cons.mpr ⟨List.mem_of_getElem? (i := 123) rfl, fun _ h => nomatch h⟩⟩⟩⟩⟩⟩⟩⟩⟩⟩⟩⟩⟩⟩⟩⟩⟩⟩⟩⟩⟩⟩⟩⟩
set_option maxRecDepth 20000 in
theorem ggX8_takeNext_X8_takeJump_2 : ∀ w ∈ (wsX8_takeJump_r2 : List Cond), w ∈ wsX8_takeNext := List.forall_mem_cons.mpr ⟨List.mem_of_getElem? (i := 25) rfl, List.forall_mem_cons.mpr ⟨List.mem_of_getElem? (i := 124) rfl, List.forall_mem_cons.mpr ⟨List.mem_of_getElem? (i := 125) rfl, List.forall_mem_cons.mpr ⟨List.mem_of_getElem? (i := 126) rfl, List.forall_mem_cons.mpr ⟨List.mem_of_getElem? (i := 127) rfl, List.forall_mem_cons.mpr ⟨List.mem_of_getElem? (i := 128) rfl, List.forall_mem_cons.mpr ⟨List.mem_of_getElem? (i := 129) rfl, List.forall_mem_cons.mpr ⟨List.mem_of_getElem? (i := 130) rfl, List.forall_mem_cons.mpr ⟨List.mem_of_getElem? (i := 131) rfl, List.forall_mem_cons.mpr ⟨List.mem_of_getElem? (i := 132) rfl, List.forall_mem_cons.mpr ⟨List.mem_of_getElem? (i := 133) rfl, List.forall_mem_cons.mpr ⟨List.mem_of_getElem? (i := 134) rfl, List.forall_mem_cons.mpr ⟨List.mem_of_getElem? (i := 135) rfl, List.forall_mem_cons.mpr ⟨List.mem_of_getElem? (i := 136) rfl, List.forall_mem_cons.mpr ⟨List.mem_of_getElem? (i := 137) rfl, List.forall_mem_cons.mpr ⟨List.mem_of_getElem? (i := 138) rfl, List.forall_mem_cons.mpr ⟨List.mem_of_getElem? (i := 139) rfl, List.forall_mem_cons.mpr ⟨List.mem_of_getElem? (i := 140) rfl, List.forall_mem_cons.mpr ⟨List.mem_of_getElem? (i := 141) rfl, List.forall_mem_cons.mpr ⟨List.mem_of_getElem? (i := 142) rfl, List.forall_mem_cons.mpr ⟨List.mem_of_getElem? (i := 143) rfl, List.forall_mem_cons.mpr ⟨List.mem_of_getElem? (i := 144) rfl, List.forall_mem_cons.mpr ⟨List.mem_of_getElem? (i := 145) rfl, List.forall_mem_cons.mpr ⟨List.mem_of_getElem? (i := 146) rfl, fun _ h => nomatch h⟩⟩⟩⟩⟩⟩⟩⟩⟩⟩⟩⟩⟩⟩⟩⟩⟩⟩⟩⟩⟩⟩⟩⟩
set_option maxRecDepth 20000 in
theorem ggX8_takeNext_X8_takeJump_3 : ∀ w ∈ (wsX8_takeJump_r3 : List Cond), w ∈ wsX8_takeNext := List.forall_mem_cons.mpr ⟨List.mem_of_getElem? (i := 147) rfl, List.forall_mem_cons.mpr ⟨List.mem_of_getElem? (i := 148) rfl, List.forall_mem_cons.mpr ⟨List.mem_of_getElem? (i := 149) rfl, List.forall_mem_cons.mpr ⟨List.mem_of_getElem? (i := 150) rfl, List.forall_mem_cons.mpr ⟨List.mem_of_getElem? (i := 151) rfl, List.forall_mem_cons.mpr ⟨List.mem_of_getElem? (i := 152) rfl, List.forall_mem_cons.mpr ⟨List.mem_of_getElem? (i := 153) rfl, List.forall_mem_cons.mpr ⟨List.mem_of_getElem? (i := 154) rfl, List.forall_mem_cons.mpr ⟨List.mem_of_getElem? (i := 155) rfl, List.forall_mem_cons.mpr ⟨List.mem_of_getElem? (i := 156) rfl, List.forall_mem_cons.mpr ⟨List.mem_of_getElem? (i := 157) rfl, List.forall_mem_cons.mpr ⟨List.mem_of_getElem? (i := 158) rfl, List.forall_mem_cons.mpr ⟨List.mem_of_getElem? (i := 159) rfl, List.forall_mem_cons.mpr ⟨List.mem_of_getElem? (i := 160) rfl, List.forall_mem_cons.mpr ⟨List.mem_of_getElem? (i := 161) rfl, List.forall_mem_cons.mpr ⟨List.mem_of_getElem? (i := 162) rfl, List.forall_mem_cons.mpr ⟨List.mem_of_getElem? (i := 163) rfl, List.forall_mem_cons.mpr ⟨List.mem_of_getElem? (i := 164) rfl, List.forall_mem_cons.mpr ⟨List.mem_of_getElem? (i := 165) rfl, List.forall_mem_cons.mpr ⟨List.mem_of_getElem? (i := 166) rfl, List.forall_mem_cons.mpr ⟨List.mem_of_getElem? (i := 167) rfl, List.forall_mem_cons.mpr ⟨List.mem_of_getElem? (i := 168) rfl, List.forall_mem_cons.mpr ⟨List.mem_of_getElem? (i := 169) rfl, List.forall_mem_cons.mpr ⟨List.mem_of_getElem? (i := 170) rfl, fun _ h => nomatch h⟩⟩⟩⟩⟩⟩⟩⟩⟩⟩⟩⟩⟩⟩⟩⟩⟩⟩⟩⟩⟩⟩⟩⟩
set_option maxRecDepth 20000 in
theorem ggX8_takeNext_X8_takeJump_4 : ∀ w ∈ (wsX8_takeJump_r4 : List Cond), w ∈ wsX8_takeNext := List.forall_mem_cons.mpr ⟨List.mem_of_getElem? (i := 171) rfl, List.forall_mem_cons.mpr ⟨List.mem_of_getElem? (i := 172) rfl, List.forall_mem_cons.mpr ⟨List.mem_of_getElem? (i := 30) rfl, List.forall_mem_cons.mpr ⟨List.mem_of_getElem? (i := 173) rfl, List.forall_mem_cons.mpr ⟨List.mem_of_getElem? (i := 174) rfl, List.forall_mem_cons.mpr ⟨List.mem_of_getElem? (i := 175) rfl, List.forall_mem_cons.mpr ⟨List.mem_of_getElem? (i := 38) rfl, List.forall_mem_cons.mpr ⟨List.mem_of_getElem? (i := 176) rfl, List.forall_mem_cons.mpr ⟨List.mem_of_getElem? (i := 40) rfl, List.forall_mem_cons.mpr ⟨List.mem_of_getElem? (i := 57) rfl, List.forall_mem_cons.mpr ⟨List.mem_of_getElem? (i := 177) rfl, List.forall_mem_cons.mpr ⟨List.mem_of_getElem? (i := 178) rfl, List.forall_mem_cons.mpr ⟨List.mem_of_getElem? (i := 179) rfl, List.forall_mem_cons.mpr ⟨List.mem_of_getElem? (i := 180) rfl, List.forall_mem_cons.mpr ⟨List.mem_of_getElem? (i := 181) rfl, List.forall_mem_cons.mpr ⟨List.mem_of_getElem? (i := 182) rfl, List.forall_mem_cons.mpr ⟨List.mem_of_getElem? (i := 183) rfl, List.forall_mem_cons.mpr ⟨List.mem_of_getElem? (i := 184) rfl, List.forall_mem_cons.mpr ⟨List.mem_of_getElem? (i := 185) rfl, List.forall_mem_cons.mpr ⟨List.mem_of_getElem? (i := 186) rfl, List.forall_mem_cons.mpr ⟨List.mem_of_getElem? (i := 187) rfl, List.forall_mem_cons.mpr ⟨List.mem_of_getElem? (i := 188) rfl, List.forall_mem_cons.mpr ⟨List.mem_of_getElem? (i := 189) rfl, List.forall_mem_cons.mpr ⟨List.mem_of_getElem? (i := 190) rfl, fun _ h => nomatch h⟩⟩⟩⟩⟩⟩⟩⟩⟩⟩⟩⟩⟩⟩⟩⟩⟩⟩⟩⟩⟩⟩⟩⟩
set_option maxRecDepth 20000 in
theorem ggX8_takeNext_X8_takeJump_5 : ∀ w ∈ (wsX8_takeJump_r5 : List Cond), w ∈ wsX8_takeNext := List.forall_mem_cons.mpr ⟨List.mem_of_getElem? (i := 191) rfl, List.forall_mem_cons.mpr ⟨List.mem_of_getElem? (i := 192) rfl, List.forall_mem_cons.mpr ⟨List.mem_of_getElem? (i := 193) rfl, List.forall_mem_cons.mpr ⟨List.mem_of_getElem? (i := 194) rfl, List.forall_mem_cons.mpr ⟨List.mem_of_getElem? (i := 195) rfl, List.forall_mem_cons.mpr ⟨List.mem_of_getElem? (i := 106) rfl, List.forall_mem_cons.mpr ⟨List.mem_of_getElem? (i := 196) rfl, List.forall_mem_cons.mpr ⟨List.mem_of_getElem? (i := 4) rfl, List.forall_mem_cons.mpr ⟨List.mem_of_getElem? (i := 197) rfl, List.forall_mem_cons.mpr ⟨List.mem_of_getElem? (i := 75) rfl, List.forall_mem_cons.mpr ⟨List.mem_of_getElem? (i := 76) rfl, List.forall_mem_cons.mpr ⟨List.mem_of_getElem? (i := 77) rfl, List.forall_mem_cons.mpr ⟨List.mem_of_getElem? (i := 78) rfl, List.forall_mem_cons.mpr ⟨List.mem_of_getElem? (i := 79) rfl, List.forall_mem_cons.mpr ⟨List.mem_of_getElem? (i := 80) rfl, List.forall_mem_cons.mpr ⟨List.mem_of_getElem? (i := 81) rfl, List.forall_mem_cons.mpr ⟨List.mem_of_getElem? (i := 198) rfl, List.forall_mem_cons.mpr ⟨List.mem_of_getElem? (i := 199) rfl, List.forall_mem_cons.mpr ⟨List.mem_of_getElem? (i := 200) rfl, List.forall_mem_cons.mpr ⟨List.mem_of_getElem? (i := 201) rfl, List.forall_mem_cons.mpr ⟨List.mem_of_getElem? (i := 5) rfl, List.forall_mem_cons.mpr ⟨List.mem_of_getElem? (i := 202) rfl, List.forall_mem_cons.mpr ⟨List.mem_of_getElem? (i := 15) rfl, List.forall_mem_cons.mpr ⟨List.mem_of_getElem? (i := 11) rfl, fun _ h => nomatch h⟩⟩⟩⟩⟩⟩⟩⟩⟩⟩⟩⟩⟩⟩⟩⟩⟩⟩⟩⟩⟩⟩⟩⟩
set_option maxRecDepth 20000 in
theorem ggX8_takeNext_X8_takeJump_6 : ∀ w ∈ (wsX8_takeJump_r6 : List Cond), w ∈ wsX8_takeNext := List.forall_mem_cons.mpr ⟨List.mem_of_getElem? (i := 16) rfl, List.forall_mem_cons.mpr ⟨List.mem_of_getElem? (i := 203) rfl, List.forall_mem_cons.mpr ⟨List.mem_of_getElem? (i := 204) rfl, List.forall_mem_cons.mpr ⟨List.mem_of_getElem? (i := 205) rfl, List.forall_mem_cons.mpr ⟨List.mem_of_getElem? (i := 206) rfl, List.forall_mem_cons.mpr ⟨List.mem_of_getElem? (i := 207) rfl, List.forall_mem_cons.mpr ⟨List.mem_of_getElem? (i := 208) rfl, List.forall_mem_cons.mpr ⟨List.mem_of_getElem? (i := 209) rfl, List.forall_mem_cons.mpr ⟨List.mem_of_getElem? (i := 210) rfl, List.forall_mem_cons.mpr ⟨List.mem_of_getElem? (i := 28) rfl, List.forall_mem_cons.mpr ⟨List.mem_of_getElem? (i := 211) rfl, List.forall_mem_cons.mpr ⟨List.mem_of_getElem? (i := 212) rfl, List.forall_mem_cons.mpr ⟨List.mem_of_getElem? (i := 213) rfl, List.forall_mem_cons.mpr ⟨List.mem_of_getElem? (i := 214) rfl, List.forall_mem_cons.mpr ⟨List.mem_of_getElem? (i := 215) rfl, List.forall_mem_cons.mpr ⟨List.mem_of_getElem? (i := 216) rfl, List.forall_mem_cons.mpr ⟨List.mem_of_getElem? (i := 217) rfl, List.forall_mem_cons.mpr ⟨List.mem_of_getElem? (i := 218) rfl, List.forall_mem_cons.mpr ⟨List.mem_of_getElem? (i := 219) rfl, List.forall_mem_cons.mpr ⟨List.mem_of_getElem? (i := 220) rfl, List.forall_mem_cons.mpr ⟨List.mem_of_getElem? (i := 221) rfl, List.forall_mem_cons.mpr ⟨List.mem_of_getElem? (i := 222) rfl, List.forall_mem_cons.mpr ⟨List.mem_of_getElem? (i := 223) rfl, List.forall_mem_cons.mpr ⟨List.mem_of_getElem? (i := 13) rfl, fun _ h => nomatch h⟩⟩⟩⟩⟩⟩⟩⟩⟩⟩⟩⟩⟩⟩⟩⟩⟩⟩⟩⟩⟩⟩⟩⟩
set_option maxRecDepth 20000 in
theorem ggX8_takeNext_X8_takeJump_7 : ∀ w ∈ (wsX8_takeJump_r7 : List Cond), w ∈ wsX8_takeNext := List.forall_mem_cons.mpr ⟨List.mem_of_getElem? (i := 224) rfl, List.forall_mem_cons.mpr ⟨List.mem_of_getElem? (i := 225) rfl, List.forall_mem_cons.mpr ⟨List.mem_of_getElem? (i := 226) rfl, List.forall_mem_cons.mpr ⟨List.mem_of_getElem? (i := 227) rfl, List.forall_mem_cons.mpr ⟨List.mem_of_getElem? (i := 228) rfl, List.forall_mem_cons.mpr ⟨List.mem_of_getElem? (i := 229) rfl, List.forall_mem_cons.mpr ⟨List.mem_of_getElem? (i := 14) rfl, fun _ h => nomatch h⟩⟩⟩⟩⟩⟩⟩
set_option maxRecDepth 20000 in
theorem ggX8_takeNext_X8_takeJump_8 : ∀ w ∈ wsX80, w ∈ wsX8_takeNext := fun w h => List.mem_cons_of_mem _ (List.mem_append_left _ (List.mem_append_left _ (List.mem_append_left _ (List.mem_append_left _ (List.mem_append_left _ (List.mem_append_right _ (h)))))))
set_option maxRecDepth 20000 in
theorem ggX8_takeNext_X8_takeJump_9 : ∀ w ∈ wsX10, w ∈ wsX8_takeNext := fun w h => List.mem_cons_of_mem _ (List.mem_append_left _ (List.mem_append_left _ (List.mem_append_left _ (List.mem_append_right _ (h)))))
set_option maxRecDepth 20000 in
theorem ggX8_takeNext_X8_takeJump_10 : ∀ w ∈ wsX60, w ∈ wsX8_takeNext := fun w h => List.mem_cons_of_mem _ (List.mem_append_left _ (List.mem_append_right _ (h)))
set_option maxRecDepth 20000 in
theorem ggX8_takeNext_X8_takeJump_11 : ∀ w ∈ wsX00, w ∈ wsX8_takeNext := fun w h => List.mem_cons_of_mem _ (List.mem_append_right _ (h))
set_option maxRecDepth 20000 in
theorem ggX8_takeNext_X8_takeJump_12 : ∀ w ∈ wsX50, w ∈ wsX8_takeNext := fun w h => List.mem_cons_of_mem _ (List.mem_append_left _ (List.mem_append_left _ (List.mem_append_right _ (h))))
set_option maxRecDepth 20000 in
theorem ggX8_takeNext_X8_takeJump_13 : ∀ w ∈ wsX30, w ∈ wsX8_takeNext := fun w h => List.mem_cons_of_mem _ (List.mem_append_left _ (List.mem_append_left _ (List.mem_append_left _ (List.mem_append_left _ (List.mem_append_right _ (h))))))
theorem ggX8_takeNext_X8_takeJump_m : ∀ w ∈ wsX8_takeJump, w ∈ wsX8_takeNext := fun w h => (List.mem_cons.mp h).elim (fun e => by rw [e]; exact List.mem_of_getElem? (i := 107) rfl) (fun h => (List.mem_append.mp h).elim (fun h => (List.mem_append.mp h).elim (fun h => (List.mem_append.mp h).elim (fun h => (List.mem_append.mp h).elim (fun h => (List.mem_append.mp h).elim (fun h => (List.mem_append.mp h).elim (fun h => (List.mem_append.mp h).elim (fun h => ggX8_takeNext_X8_takeJump_1 w h) (fun h => (List.mem_append.mp h).elim (fun h => ggX8_takeNext_X8_takeJump_2 w h) (fun h => (List.mem_append.mp h).elim (fun h => ggX8_takeNext_X8_takeJump_3 w h) (fun h => (List.mem_append.mp h).elim (fun h => ggX8_takeNext_X8_takeJump_4 w h) (fun h => (List.mem_append.mp h).elim (fun h => ggX8_takeNext_X8_takeJump_5 w h) (fun h => (List.mem_append.mp h).elim (fun h => ggX8_takeNext_X8_takeJump_6 w h) (fun h => ggX8_takeNext_X8_takeJump_7 w h))))))) (fun h => ggX8_takeNext_X8_takeJump_8 w h)) (fun h => ggX8_takeNext_X8_takeJump_9 w h)) (fun h => ggX8_takeNext_X8_takeJump_10 w h)) (fun h => ggX8_takeNext_X8_takeJump_11 w h)) (fun h => ggX8_takeNext_X8_takeJump_12 w h)) (fun h => ggX8_takeNext_X8_takeJump_13 w h))
set_option maxRecDepth 20000 in
theorem ggX8_takeNext_X8_takeJump : GoodIn wsX8_takeNext wsX8_takeJump := goodIn_sub ggX8_takeNext_X8_takeJump_m (by decide +kernel)
set_option maxRecDepth 20000 in
theorem ggX8_takeNext_X0_giveOut_1 : ∀ w ∈ (wsX0_giveOut_r1 : List Cond), w ∈ wsX8_takeNext := List.forall_mem_cons.mpr ⟨List.mem_of_getElem? (i := 167) rfl, List.forall_mem_cons.mpr ⟨List.mem_of_getElem? (i := 234) rfl, List.forall_mem_cons.mpr ⟨List.mem_of_getElem? (i := 235) rfl, List.forall_mem_cons.mpr ⟨List.mem_of_getElem? (i := 236) rfl, List.forall_mem_cons.mpr ⟨List.mem_of_getElem? (i := 20) rfl, List.forall_mem_cons.mpr ⟨List.mem_of_getElem? (i := 237) rfl, List.forall_mem_cons.mpr ⟨List.mem_of_getElem? (i := 29) rfl, List.forall_mem_cons.mpr ⟨List.mem_of_getElem? (i := 238) rfl, List.forall_mem_cons.mpr ⟨List.mem_of_getElem? (i := 239) rfl, List.forall_mem_cons.mpr ⟨List.mem_of_getElem? (i := 240) rfl, List.forall_mem_cons.mpr ⟨List.mem_of_getElem? (i := 163) rfl, List.forall_mem_cons.mpr ⟨List.mem_of_getElem? (i := 241) rfl, List.forall_mem_cons.mpr ⟨List.mem_of_getElem? (i := 242) rfl, List.forall_mem_cons.mpr ⟨List.mem_of_getElem? (i := 243) rfl, List.forall_mem_cons.mpr ⟨List.mem_of_getElem? (i := 244) rfl, List.forall_mem_cons.mpr ⟨List.mem_of_getElem? (i := 179) rfl, List.forall_mem_cons.mpr ⟨List.mem_of_getElem? (i := 245) rfl, List.forall_mem_cons.mpr ⟨List.mem_of_getElem? (i := 165) rfl, List.forall_mem_cons.mpr ⟨List.mem_of_getElem? (i := 182) rfl, List.forall_mem_cons.mpr ⟨List.mem_of_getElem? (i := 183) rfl, List.forall_mem_cons.mpr ⟨List.mem_of_getElem? (i := 184) rfl, List.forall_mem_cons.mpr ⟨List.mem_of_getElem? (i := 185) rfl, List.forall_mem_cons.mpr ⟨List.mem_of_getElem? (i := 186) rfl, List.forall_mem_cons.mpr ⟨List.mem_of_getElem? (i := 178) rfl, fun _ h => nomatch h⟩⟩⟩⟩⟩⟩⟩⟩⟩⟩⟩⟩⟩⟩⟩⟩⟩⟩⟩⟩⟩⟩⟩⟩
set_option maxRecDepth 20000 in
theorem ggX8_takeNext_X0_giveOut_2 : ∀ w ∈ (wsX0_giveOut_r2 : List Cond), w ∈ wsX8_takeNext := List.forall_mem_cons.mpr ⟨List.mem_of_getElem? (i := 180) rfl, List.forall_mem_cons.mpr ⟨List.mem_of_getElem? (i := 187) rfl, List.forall_mem_cons.mpr ⟨List.mem_of_getElem? (i := 246) rfl, List.forall_mem_cons.mpr ⟨List.mem_of_getElem? (i := 247) rfl, List.forall_mem_cons.mpr ⟨List.mem_of_getElem? (i := 248) rfl, List.forall_mem_cons.mpr ⟨List.mem_of_getElem? (i := 249) rfl, List.forall_mem_cons.mpr ⟨List.mem_of_getElem? (i := 31) rfl, List.forall_mem_cons.mpr ⟨List.mem_of_getElem? (i := 173) rfl, List.forall_mem_cons.mpr ⟨List.mem_of_getElem? (i := 174) rfl, List.forall_mem_cons.mpr ⟨List.mem_of_getElem? (i := 175) rfl, List.forall_mem_cons.mpr ⟨List.mem_of_getElem? (i := 38) rfl, List.forall_mem_cons.mpr ⟨List.mem_of_getElem? (i := 176) rfl, List.forall_mem_cons.mpr ⟨List.mem_of_getElem? (i := 40) rfl, List.forall_mem_cons.mpr ⟨List.mem_of_getElem? (i := 57) rfl, List.forall_mem_cons.mpr ⟨List.mem_of_getElem? (i := 177) rfl, List.forall_mem_cons.mpr ⟨List.mem_of_getElem? (i := 250) rfl, List.forall_mem_cons.mpr ⟨List.mem_of_getElem? (i := 251) rfl, List.forall_mem_cons.mpr ⟨List.mem_of_getElem? (i := 252) rfl, List.forall_mem_cons.mpr ⟨List.mem_of_getElem? (i := 253) rfl, List.forall_mem_cons.mpr ⟨List.mem_of_getElem? (i := 254) rfl, List.forall_mem_cons.mpr ⟨List.mem_of_getElem? (i := 255) rfl, List.forall_mem_cons.mpr ⟨List.mem_of_getElem? (i := 168) rfl, List.forall_mem_cons.mpr ⟨List.mem_of_getElem? (i := 166) rfl, List.forall_mem_cons.mpr ⟨List.mem_of_getElem? (i := 256) rfl, fun _ h => nomatch h⟩⟩⟩⟩⟩⟩⟩⟩⟩⟩⟩⟩⟩⟩⟩⟩⟩⟩⟩⟩⟩⟩⟩⟩
set_option maxRecDepth 20000 in
theorem ggX8_takeNext_X0_giveOut_3 : ∀ w ∈ (wsX0_giveOut_r3 : List Cond), w ∈ wsX8_takeNext := List.forall_mem_cons.mpr ⟨List.mem_of_getElem? (i := 257) rfl, List.forall_mem_cons.mpr ⟨List.mem_of_getElem? (i := 258) rfl, List.forall_mem_cons.mpr ⟨List.mem_of_getElem? (i := 259) rfl, List.forall_mem_cons.mpr ⟨List.mem_of_getElem? (i := 169) rfl, List.forall_mem_cons.mpr ⟨List.mem_of_getElem? (i := 170) rfl, List.forall_mem_cons.mpr ⟨List.mem_of_getElem? (i := 171) rfl, List.forall_mem_cons.mpr ⟨List.mem_of_getElem? (i := 172) rfl, List.forall_mem_cons.mpr ⟨List.mem_of_getElem? (i := 30) rfl, List.forall_mem_cons.mpr ⟨List.mem_of_getElem? (i := 260) rfl, List.forall_mem_cons.mpr ⟨List.mem_of_getElem? (i := 261) rfl, List.forall_mem_cons.mpr ⟨List.mem_of_getElem? (i := 262) rfl, List.forall_mem_cons.mpr ⟨List.mem_of_getElem? (i := 263) rfl, List.forall_mem_cons.mpr ⟨List.mem_of_getElem? (i := 264) rfl, List.forall_mem_cons.mpr ⟨List.mem_of_getElem? (i := 95) rfl, List.forall_mem_cons.mpr ⟨List.mem_of_getElem? (i := 96) rfl, List.forall_mem_cons.mpr ⟨List.mem_of_getElem? (i := 97) rfl, List.forall_mem_cons.mpr ⟨List.mem_of_getElem? (i := 23) rfl, List.forall_mem_cons.mpr ⟨List.mem_of_getElem? (i := 24) rfl, List.forall_mem_cons.mpr ⟨List.mem_of_getElem? (i := 265) rfl, List.forall_mem_cons.mpr ⟨List.mem_of_getElem? (i := 83) rfl, List.forall_mem_cons.mpr ⟨List.mem_of_getElem? (i := 84) rfl, List.forall_mem_cons.mpr ⟨List.mem_of_getElem? (i := 85) rfl, List.forall_mem_cons.mpr ⟨List.mem_of_getElem? (i := 266) rfl, List.forall_mem_cons.mpr ⟨List.mem_of_getElem? (i := 267) rfl, fun _ h => nomatch h⟩⟩⟩⟩⟩⟩⟩⟩⟩⟩⟩⟩⟩⟩⟩⟩⟩⟩⟩⟩⟩⟩⟩⟩
set_option maxRecDepth 20000 in
theorem ggX8_takeNext_X0_giveOut_4 : ∀ w ∈ (wsX0_giveOut_r4 : List Cond), w ∈ wsX8_takeNext := List.forall_mem_cons.mpr ⟨List.mem_of_getElem? (i := 268) rfl, List.forall_mem_cons.mpr ⟨List.mem_of_getElem? (i := 269) rfl, List.forall_mem_cons.mpr ⟨List.mem_of_getElem? (i := 188) rfl, List.forall_mem_cons.mpr ⟨List.mem_of_getElem? (i := 189) rfl, List.forall_mem_cons.mpr ⟨List.mem_of_getElem? (i := 190) rfl, List.forall_mem_cons.mpr ⟨List.mem_of_getElem? (i := 191) rfl, List.forall_mem_cons.mpr ⟨List.mem_of_getElem? (i := 192) rfl, List.forall_mem_cons.mpr ⟨List.mem_of_getElem? (i := 270) rfl, List.forall_mem_cons.mpr ⟨List.mem_of_getElem? (i := 117) rfl, List.forall_mem_cons.mpr ⟨List.mem_of_getElem? (i := 118) rfl, List.forall_mem_cons.mpr ⟨List.mem_of_getElem? (i := 119) rfl, List.forall_mem_cons.mpr ⟨List.mem_of_getElem? (i := 271) rfl, List.forall_mem_cons.mpr ⟨List.mem_of_getElem? (i := 75) rfl, List.forall_mem_cons.mpr ⟨List.mem_of_getElem? (i := 76) rfl, List.forall_mem_cons.mpr ⟨List.mem_of_getElem? (i := 77) rfl, List.forall_mem_cons.mpr ⟨List.mem_of_getElem? (i := 78) rfl, List.forall_mem_cons.mpr ⟨List.mem_of_getElem? (i := 79) rfl, List.forall_mem_cons.mpr ⟨List.mem_of_getElem? (i := 80) rfl, List.forall_mem_cons.mpr ⟨List.mem_of_getElem? (i := 81) rfl, fun _ h => nomatch h⟩⟩⟩⟩⟩⟩⟩⟩⟩⟩⟩⟩⟩⟩⟩⟩⟩⟩⟩
set_option maxRecDepth 20000 in
theorem ggX8_takeNext_X0_giveOut_5 : ∀ w ∈ wsX00, w ∈ wsX8_takeNext := fun w h => List.mem_cons_of_mem _ (List.mem_append_right _ (h))
set_option maxRecDepth 20000 in
theorem ggX8_takeNext_X0_giveOut_6 : ∀ w ∈ wsX10, w ∈ wsX8_takeNext := fun w h => List.mem_cons_of_mem _ (List.mem_append_left _ (List.mem_append_left _ (List.mem_append_left _ (List.mem_append_right _ (h)))))
set_option maxRecDepth 20000 in
theorem ggX8_takeNext_X0_giveOut_7 : ∀ w ∈ wsX50, w ∈ wsX8_takeNext := fun w h => List.mem_cons_of_mem _ (List.mem_append_left _ (List.mem_append_left _ (List.mem_append_right _ (h))))
theorem ggX8_takeNext_X0_giveOut_m : ∀ w ∈ wsX0_giveOut, w ∈ wsX8_takeNext := fun w h => (List.mem_cons.mp h).elim (fun e => by rw [e]; exact List.mem_of_getElem? (i := 233) rfl) (fun h => (List.mem_append.mp h).elim (fun h => (List.mem_append.mp h).elim (fun h => (List.mem_append.mp h).elim (fun h => (List.mem_append.mp h).elim (fun h => ggX8_takeNext_X0_giveOut_1 w h) (fun h => (List.mem_append.mp h).elim (fun h => ggX8_takeNext_X0_giveOut_2 w h) (fun h => (List.mem_append.mp h).elim (fun h => ggX8_takeNext_X0_giveOut_3 w h) (fun h => ggX8_takeNext_X0_giveOut_4 w h)))) (fun h => ggX8_takeNext_X0_giveOut_5 w h)) (fun h => ggX8_takeNext_X0_giveOut_6 w h)) (fun h => ggX8_takeNext_X0_giveOut_7 w h))
set_option maxRecDepth 20000 in
theorem ggX8_takeNext_X0_giveOut : GoodIn wsX8_takeNext wsX0_giveOut := goodIn_sub ggX8_takeNext_X0_giveOut_m (by decide +kernel)
set_option maxRecDepth 20000 in
theorem ggX8_takeNext_X7_apply_1 : ∀ w ∈ (wsX7_apply_r1 : List Cond), w ∈ wsX8_takeNext := List.forall_mem_cons.mpr ⟨List.mem_of_getElem? (i := 276) rfl, List.forall_mem_cons.mpr ⟨List.mem_of_getElem? (i := 235) rfl, List.forall_mem_cons.mpr ⟨List.mem_of_getElem? (i := 236) rfl, List.forall_mem_cons.mpr ⟨List.mem_of_getElem? (i := 20) rfl, List.forall_mem_cons.mpr ⟨List.mem_of_getElem? (i := 237) rfl, List.forall_mem_cons.mpr ⟨List.mem_of_getElem? (i := 29) rfl, List.forall_mem_cons.mpr ⟨List.mem_of_getElem? (i := 277) rfl, List.forall_mem_cons.mpr ⟨List.mem_of_getElem? (i := 117) rfl, List.forall_mem_cons.mpr ⟨List.mem_of_getElem? (i := 118) rfl, List.forall_mem_cons.mpr ⟨List.mem_of_getElem? (i := 119) rfl, List.forall_mem_cons.mpr ⟨List.mem_of_getElem? (i := 24) rfl, List.forall_mem_cons.mpr ⟨List.mem_of_getElem? (i := 278) rfl, List.forall_mem_cons.mpr ⟨List.mem_of_getElem? (i := 113) rfl, List.forall_mem_cons.mpr ⟨List.mem_of_getElem? (i := 114) rfl, List.forall_mem_cons.mpr ⟨List.mem_of_getElem? (i := 115) rfl, List.forall_mem_cons.mpr ⟨List.mem_of_getElem? (i := 23) rfl, List.forall_mem_cons.mpr ⟨List.mem_of_getElem? (i := 279) rfl, List.forall_mem_cons.mpr ⟨List.mem_of_getElem? (i := 121) rfl, List.forall_mem_cons.mpr ⟨List.mem_of_getElem? (i := 122) rfl, List.forall_mem_cons.mpr ⟨List.mem_of_getElem? (i := 123) rfl, List.forall_mem_cons.mpr ⟨List.mem_of_getElem? (i := 25) rfl, List.forall_mem_cons.mpr ⟨List.mem_of_getElem? (i := 280) rfl, List.forall_mem_cons.mpr ⟨List.mem_of_getElem? (i := 125) rfl, List.forall_mem_cons.mpr ⟨List.mem_of_getElem? (i := 126) rfl, fun _ h => nomatch h⟩⟩⟩⟩⟩⟩⟩⟩⟩⟩⟩⟩⟩⟩⟩⟩⟩⟩⟩⟩⟩⟩⟩⟩
set_option maxRecDepth 20000 in
theorem ggX8_takeNext_X7_apply_2 : ∀ w ∈ (wsX7_apply_r2 : List Cond), w ∈ wsX8_takeNext := List.forall_mem_cons.mpr ⟨List.mem_of_getElem? (i := 127) rfl, List.forall_mem_cons.mpr ⟨List.mem_of_getElem? (i := 128) rfl, List.forall_mem_cons.mpr ⟨List.mem_of_getElem? (i := 129) rfl, List.forall_mem_cons.mpr ⟨List.mem_of_getElem? (i := 281) rfl, List.forall_mem_cons.mpr ⟨List.mem_of_getElem? (i := 282) rfl, List.forall_mem_cons.mpr ⟨List.mem_of_getElem? (i := 283) rfl, List.forall_mem_cons.mpr ⟨List.mem_of_getElem? (i := 284) rfl, List.forall_mem_cons.mpr ⟨List.mem_of_getElem? (i := 26) rfl, List.forall_mem_cons.mpr ⟨List.mem_of_getElem? (i := 285) rfl, List.forall_mem_cons.mpr ⟨List.mem_of_getElem? (i := 286) rfl, List.forall_mem_cons.mpr ⟨List.mem_of_getElem? (i := 274) rfl, List.forall_mem_cons.mpr ⟨List.mem_of_getElem? (i := 287) rfl, List.forall_mem_cons.mpr ⟨List.mem_of_getElem? (i := 288) rfl, List.forall_mem_cons.mpr ⟨List.mem_of_getElem? (i := 289) rfl, List.forall_mem_cons.mpr ⟨List.mem_of_getElem? (i := 290) rfl, List.forall_mem_cons.mpr ⟨List.mem_of_getElem? (i := 291) rfl, List.forall_mem_cons.mpr ⟨List.mem_of_getElem? (i := 292) rfl, List.forall_mem_cons.mpr ⟨List.mem_of_getElem? (i := 293) rfl, List.forall_mem_cons.mpr ⟨List.mem_of_getElem? (i := 294) rfl, List.forall_mem_cons.mpr ⟨List.mem_of_getElem? (i := 295) rfl, List.forall_mem_cons.mpr ⟨List.mem_of_getElem? (i := 296) rfl, List.forall_mem_cons.mpr ⟨List.mem_of_getElem? (i := 297) rfl, List.forall_mem_cons.mpr ⟨List.mem_of_getElem? (i := 298) rfl, List.forall_mem_cons.mpr ⟨List.mem_of_getElem? (i := 299) rfl, fun _ h => nomatch h⟩⟩⟩⟩⟩⟩⟩⟩⟩⟩⟩⟩⟩⟩⟩⟩⟩⟩⟩⟩⟩⟩⟩⟩
set_option maxRecDepth 20000 in
theorem ggX8_takeNext_X7_apply_3 : ∀ w ∈ (wsX7_apply_r3 : List Cond), w ∈ wsX8_takeNext := List.forall_mem_cons.mpr ⟨List.mem_of_getElem? (i := 300) rfl, List.forall_mem_cons.mpr ⟨List.mem_of_getElem? (i := 301) rfl, List.forall_mem_cons.mpr ⟨List.mem_of_getElem? (i := 302) rfl, List.forall_mem_cons.mpr ⟨List.mem_of_getElem? (i := 303) rfl, List.forall_mem_cons.mpr ⟨List.mem_of_getElem? (i := 135) rfl, List.forall_mem_cons.mpr ⟨List.mem_of_getElem? (i := 304) rfl, List.forall_mem_cons.mpr ⟨List.mem_of_getElem? (i := 137) rfl, List.forall_mem_cons.mpr ⟨List.mem_of_getElem? (i := 305) rfl, List.forall_mem_cons.mpr ⟨List.mem_of_getElem? (i := 306) rfl, List.forall_mem_cons.mpr ⟨List.mem_of_getElem? (i := 307) rfl, List.forall_mem_cons.mpr ⟨List.mem_of_getElem? (i := 308) rfl, List.forall_mem_cons.mpr ⟨List.mem_of_getElem? (i := 309) rfl, List.forall_mem_cons.mpr ⟨List.mem_of_getElem? (i := 244) rfl, List.forall_mem_cons.mpr ⟨List.mem_of_getElem? (i := 179) rfl, List.forall_mem_cons.mpr ⟨List.mem_of_getElem? (i := 245) rfl, List.forall_mem_cons.mpr ⟨List.mem_of_getElem? (i := 310) rfl, List.forall_mem_cons.mpr ⟨List.mem_of_getElem? (i := 139) rfl, List.forall_mem_cons.mpr ⟨List.mem_of_getElem? (i := 140) rfl, List.forall_mem_cons.mpr ⟨List.mem_of_getElem? (i := 311) rfl, List.forall_mem_cons.mpr ⟨List.mem_of_getElem? (i := 142) rfl, List.forall_mem_cons.mpr ⟨List.mem_of_getElem? (i := 143) rfl, List.forall_mem_cons.mpr ⟨List.mem_of_getElem? (i := 144) rfl, List.forall_mem_cons.mpr ⟨List.mem_of_getElem? (i := 312) rfl, List.forall_mem_cons.mpr ⟨List.mem_of_getElem? (i := 313) rfl, fun _ h => nomatch h⟩⟩⟩⟩⟩⟩⟩⟩⟩⟩⟩⟩⟩⟩⟩⟩⟩⟩⟩⟩⟩⟩⟩⟩
set_option maxRecDepth 20000 in
theorem ggX8_takeNext_X7_apply_4 : ∀ w ∈ (wsX7_apply_r4 : List Cond), w ∈ wsX8_takeNext := List.forall_mem_cons.mpr ⟨List.mem_of_getElem? (i := 314) rfl, List.forall_mem_cons.mpr ⟨List.mem_of_getElem? (i := 315) rfl, List.forall_mem_cons.mpr ⟨List.mem_of_getElem? (i := 153) rfl, List.forall_mem_cons.mpr ⟨List.mem_of_getElem? (i := 154) rfl, List.forall_mem_cons.mpr ⟨List.mem_of_getElem? (i := 155) rfl, List.forall_mem_cons.mpr ⟨List.mem_of_getElem? (i := 316) rfl, List.forall_mem_cons.mpr ⟨List.mem_of_getElem? (i := 317) rfl, List.forall_mem_cons.mpr ⟨List.mem_of_getElem? (i := 318) rfl, List.forall_mem_cons.mpr ⟨List.mem_of_getElem? (i := 319) rfl, List.forall_mem_cons.mpr ⟨List.mem_of_getElem? (i := 320) rfl, List.forall_mem_cons.mpr ⟨List.mem_of_getElem? (i := 321) rfl, List.forall_mem_cons.mpr ⟨List.mem_of_getElem? (i := 322) rfl, List.forall_mem_cons.mpr ⟨List.mem_of_getElem? (i := 323) rfl, List.forall_mem_cons.mpr ⟨List.mem_of_getElem? (i := 212) rfl, List.forall_mem_cons.mpr ⟨List.mem_of_getElem? (i := 213) rfl, List.forall_mem_cons.mpr ⟨List.mem_of_getElem? (i := 324) rfl, List.forall_mem_cons.mpr ⟨List.mem_of_getElem? (i := 325) rfl, List.forall_mem_cons.mpr ⟨List.mem_of_getElem? (i := 326) rfl, List.forall_mem_cons.mpr ⟨List.mem_of_getElem? (i := 327) rfl, List.forall_mem_cons.mpr ⟨List.mem_of_getElem? (i := 328) rfl, List.forall_mem_cons.mpr ⟨List.mem_of_getElem? (i := 329) rfl, List.forall_mem_cons.mpr ⟨List.mem_of_getElem? (i := 158) rfl, List.forall_mem_cons.mpr ⟨List.mem_of_getElem? (i := 330) rfl, List.forall_mem_cons.mpr ⟨List.mem_of_getElem? (i := 331) rfl, fun _ h => nomatch h⟩⟩⟩⟩⟩⟩⟩⟩⟩⟩⟩⟩⟩⟩⟩⟩⟩⟩⟩⟩⟩⟩⟩⟩
set_option maxRecDepth 20000 in
theorem ggX8_takeNext_X7_apply_5 : ∀ w ∈ (wsX7_apply_r5 : List Cond), w ∈ wsX8_takeNext := List.forall_mem_cons.mpr ⟨List.mem_of_getElem? (i := 332) rfl, List.forall_mem_cons.mpr ⟨List.mem_of_getElem? (i := 333) rfl, List.forall_mem_cons.mpr ⟨List.mem_of_getElem? (i := 334) rfl, List.forall_mem_cons.mpr ⟨List.mem_of_getElem? (i := 335) rfl, List.forall_mem_cons.mpr ⟨List.mem_of_getElem? (i := 336) rfl, List.forall_mem_cons.mpr ⟨List.mem_of_getElem? (i := 337) rfl, List.forall_mem_cons.mpr ⟨List.mem_of_getElem? (i := 338) rfl, List.forall_mem_cons.mpr ⟨List.mem_of_getElem? (i := 339) rfl, List.forall_mem_cons.mpr ⟨List.mem_of_getElem? (i := 340) rfl, List.forall_mem_cons.mpr ⟨List.mem_of_getElem? (i := 341) rfl, List.forall_mem_cons.mpr ⟨List.mem_of_getElem? (i := 342) rfl, List.forall_mem_cons.mpr ⟨List.mem_of_getElem? (i := 343) rfl, List.forall_mem_cons.mpr ⟨List.mem_of_getElem? (i := 344) rfl, List.forall_mem_cons.mpr ⟨List.mem_of_getElem? (i := 345) rfl, List.forall_mem_cons.mpr ⟨List.mem_of_getElem? (i := 208) rfl, List.forall_mem_cons.mpr ⟨List.mem_of_getElem? (i := 209) rfl, List.forall_mem_cons.mpr ⟨List.mem_of_getElem? (i := 210) rfl, List.forall_mem_cons.mpr ⟨List.mem_of_getElem? (i := 28) rfl, List.forall_mem_cons.mpr ⟨List.mem_of_getElem? (i := 346) rfl, List.forall_mem_cons.mpr ⟨List.mem_of_getElem? (i := 347) rfl, List.forall_mem_cons.mpr ⟨List.mem_of_getElem? (i := 348) rfl, List.forall_mem_cons.mpr ⟨List.mem_of_getElem? (i := 349) rfl, List.forall_mem_cons.mpr ⟨List.mem_of_getElem? (i := 95) rfl, List.forall_mem_cons.mpr ⟨List.mem_of_getElem? (i := 96) rfl, fun _ h => nomatch h⟩⟩⟩⟩⟩⟩⟩⟩⟩⟩⟩⟩⟩⟩⟩⟩⟩⟩⟩⟩⟩⟩⟩⟩
set_option maxRecDepth 20000 in
theorem ggX8_takeNext_X7_apply_6 : ∀ w ∈ (wsX7_apply_r6 : List Cond), w ∈ wsX8_takeNext := List.forall_mem_cons.mpr ⟨List.mem_of_getElem? (i := 97) rfl, List.forall_mem_cons.mpr ⟨List.mem_of_getElem? (i := 350) rfl, List.forall_mem_cons.mpr ⟨List.mem_of_getElem? (i := 351) rfl, List.forall_mem_cons.mpr ⟨List.mem_of_getElem? (i := 352) rfl, List.forall_mem_cons.mpr ⟨List.mem_of_getElem? (i := 11) rfl, List.forall_mem_cons.mpr ⟨List.mem_of_getElem? (i := 353) rfl, List.forall_mem_cons.mpr ⟨List.mem_of_getElem? (i := 229) rfl, List.forall_mem_cons.mpr ⟨List.mem_of_getElem? (i := 14) rfl, List.forall_mem_cons.mpr ⟨List.mem_of_getElem? (i := 15) rfl, List.forall_mem_cons.mpr ⟨List.mem_of_getElem? (i := 16) rfl, List.forall_mem_cons.mpr ⟨List.mem_of_getElem? (i := 354) rfl, List.forall_mem_cons.mpr ⟨List.mem_of_getElem? (i := 83) rfl, List.forall_mem_cons.mpr ⟨List.mem_of_getElem? (i := 84) rfl, List.forall_mem_cons.mpr ⟨List.mem_of_getElem? (i := 85) rfl, List.forall_mem_cons.mpr ⟨List.mem_of_getElem? (i := 355) rfl, List.forall_mem_cons.mpr ⟨List.mem_of_getElem? (i := 226) rfl, List.forall_mem_cons.mpr ⟨List.mem_of_getElem? (i := 227) rfl, List.forall_mem_cons.mpr ⟨List.mem_of_getElem? (i := 228) rfl, List.forall_mem_cons.mpr ⟨List.mem_of_getElem? (i := 224) rfl, List.forall_mem_cons.mpr ⟨List.mem_of_getElem? (i := 356) rfl, List.forall_mem_cons.mpr ⟨List.mem_of_getElem? (i := 357) rfl, List.forall_mem_cons.mpr ⟨List.mem_of_getElem? (i := 358) rfl, List.forall_mem_cons.mpr ⟨List.mem_of_getElem? (i := 359) rfl, List.forall_mem_cons.mpr ⟨List.mem_of_getElem? (i := 152) rfl, fun _ h => nomatch h⟩⟩⟩⟩⟩⟩⟩⟩⟩⟩⟩⟩⟩⟩⟩⟩⟩⟩⟩⟩⟩⟩⟩⟩
set_option maxRecDepth 20000 in
theorem ggX8_takeNext_X7_apply_7 : ∀ w ∈ wsX10, w ∈ wsX8_takeNext := fun w h => List.mem_cons_of_mem _ (List.mem_append_left _ (List.mem_append_left _ (List.mem_append_left _ (List.mem_append_right _ (h)))))
set_option maxRecDepth 20000 in
theorem ggX8_takeNext_X7_apply_8 : ∀ w ∈ wsX60, w ∈ wsX8_takeNext := fun w h => List.mem_cons_of_mem _ (List.mem_append_left _ (List.mem_append_right _ (h)))
set_option maxRecDepth 20000 in
theorem ggX8_takeNext_X7_apply_9 : ∀ w ∈ wsX30, w ∈ wsX8_takeNext := fun w h => List.mem_cons_of_mem _ (List.mem_append_left _ (List.mem_append_left _ (List.mem_append_left _ (List.mem_append_left _ (List.mem_append_right _ (h))))))
theorem ggX8_takeNext_X7_apply_m : ∀ w ∈ wsX7_apply, w ∈ wsX8_takeNext := fun w h => (List.mem_cons.mp h).elim (fun e => by rw [e]; exact List.mem_of_getElem? (i := 275) rfl) (fun h => (List.mem_append.mp h).elim (fun h => (List.mem_append.mp h).elim (fun h => (List.mem_append.mp h).elim (fun h => (List.mem_append.mp h).elim (fun h => ggX8_takeNext_X7_apply_1 w h) (fun h => (List.mem_append.mp h).elim (fun h => ggX8_takeNext_X7_apply_2 w h) (fun h => (List.mem_append.mp h).elim (fun h => ggX8_takeNext_X7_apply_3 w h) (fun h => (List.mem_append.mp h).elim (fun h => ggX8_takeNext_X7_apply_4 w h) (fun h => (List.mem_append.mp h).elim (fun h => ggX8_takeNext_X7_apply_5 w h) (fun h => ggX8_takeNext_X7_apply_6 w h)))))) (fun h => ggX8_takeNext_X7_apply_7 w h)) (fun h => ggX8_takeNext_X7_apply_8 w h)) (fun h => ggX8_takeNext_X7_apply_9 w h))
set_option maxRecDepth 20000 in
theorem ggX8_takeNext_X7_apply : GoodIn wsX8_takeNext wsX7_apply := goodIn_sub ggX8_takeNext_X7_apply_m (by decide +kernel)
set_option maxRecDepth 20000 in
theorem ggX8_takeNext_X8_goOnBehind_1 : ∀ w ∈ ([.fieldLink RX8 41 "ScoreboardCore" "parcel" "I", .fieldLink RX8 33 "ScoreboardCore" "instruction" "LScoreboardCore$Instruction;", .fieldLink RX8 37 "ScoreboardCore" "word" "I", .methodLink RX8 155 yX1_parcels, .instanceMethod yX1_parcels, .selects RX1 yX1_parcels yX1_parcels, .initialized RX1, .code yX1_parcels cX1_parcels 2 (some .int), .fieldLink RX1 25 "ScoreboardCore$Instruction" "op" "I", .methodLink RX1 57 yX1_isJump, .instanceMethod yX1_isJump, .selects RX1 yX1_isJump yX1_isJump, .code yX1_isJump cX1_isJump 1 (some .boolean), .methodLink RX8 71 yX8_goOnAt, .instanceMethod yX8_goOnAt, .selects RX8 yX8_goOnAt yX8_goOnAt, .initialized RX8, .code yX8_goOnAt cX8_goOnAt 2 none, .fieldLink RX8 44 "ScoreboardCore" "stop" "I", .methodLink RX8 47 yX3_holds, .static yX3_holds, .initialized RX3, .code yX3_holds cX3_holds 1 (some .boolean)] : List Cond), w ∈ wsX8_takeNext := List.forall_mem_cons.mpr ⟨List.mem_of_getElem? (i := 4) rfl, List.forall_mem_cons.mpr ⟨List.mem_of_getElem? (i := 1) rfl, List.forall_mem_cons.mpr ⟨List.mem_of_getElem? (i := 3) rfl, List.forall_mem_cons.mpr ⟨List.mem_of_getElem? (i := 197) rfl, List.forall_mem_cons.mpr ⟨List.mem_of_getElem? (i := 75) rfl, List.forall_mem_cons.mpr ⟨List.mem_of_getElem? (i := 76) rfl, List.forall_mem_cons.mpr ⟨List.mem_of_getElem? (i := 20) rfl, List.forall_mem_cons.mpr ⟨List.mem_of_getElem? (i := 77) rfl, List.forall_mem_cons.mpr ⟨List.mem_of_getElem? (i := 23) rfl, List.forall_mem_cons.mpr ⟨List.mem_of_getElem? (i := 78) rfl, List.forall_mem_cons.mpr ⟨List.mem_of_getElem? (i := 79) rfl, List.forall_mem_cons.mpr ⟨List.mem_of_getElem? (i := 80) rfl, List.forall_mem_cons.mpr ⟨List.mem_of_getElem? (i := 81) rfl, List.forall_mem_cons.mpr ⟨List.mem_of_getElem? (i := 198) rfl, List.forall_mem_cons.mpr ⟨List.mem_of_getElem? (i := 199) rfl, List.forall_mem_cons.mpr ⟨List.mem_of_getElem? (i := 200) rfl, List.forall_mem_cons.mpr ⟨List.mem_of_getElem? (i := 106) rfl, List.forall_mem_cons.mpr ⟨List.mem_of_getElem? (i := 201) rfl, List.forall_mem_cons.mpr ⟨List.mem_of_getElem? (i := 5) rfl, List.forall_mem_cons.mpr ⟨List.mem_of_getElem? (i := 202) rfl, List.forall_mem_cons.mpr ⟨List.mem_of_getElem? (i := 15) rfl, List.forall_mem_cons.mpr ⟨List.mem_of_getElem? (i := 11) rfl, List.forall_mem_cons.mpr ⟨List.mem_of_getElem? (i := 16) rfl, fun _ h => nomatch h⟩⟩⟩⟩⟩⟩⟩⟩⟩⟩⟩⟩⟩⟩⟩⟩⟩⟩⟩⟩⟩⟩⟩
set_option maxRecDepth 20000 in
theorem ggX8_takeNext_X8_goOnBehind_2 : ∀ w ∈ wsX80, w ∈ wsX8_takeNext := fun w h => List.mem_cons_of_mem _ (List.mem_append_left _ (List.mem_append_left _ (List.mem_append_left _ (List.mem_append_left _ (List.mem_append_left _ (List.mem_append_right _ (h)))))))
set_option maxRecDepth 20000 in
theorem ggX8_takeNext_X8_goOnBehind_3 : ∀ w ∈ wsX10, w ∈ wsX8_takeNext := fun w h => List.mem_cons_of_mem _ (List.mem_append_left _ (List.mem_append_left _ (List.mem_append_left _ (List.mem_append_right _ (h)))))
theorem ggX8_takeNext_X8_goOnBehind_m : ∀ w ∈ wsX8_goOnBehind, w ∈ wsX8_takeNext := fun w h => (List.mem_cons.mp h).elim (fun e => by rw [e]; exact List.mem_of_getElem? (i := 196) rfl) (fun h => (List.mem_append.mp h).elim (fun h => (List.mem_append.mp h).elim (fun h => ggX8_takeNext_X8_goOnBehind_1 w h) (fun h => ggX8_takeNext_X8_goOnBehind_2 w h)) (fun h => ggX8_takeNext_X8_goOnBehind_3 w h))
set_option maxRecDepth 20000 in
theorem ggX8_takeNext_X8_goOnBehind : GoodIn wsX8_takeNext wsX8_goOnBehind := goodIn_sub ggX8_takeNext_X8_goOnBehind_m (by decide +kernel)
theorem dX8_takeNext_0 : decode cX8_takeNext 0 = .ok (.aload_n 0, 1) := by decide +kernel
theorem dX8_takeNext_1 : decode cX8_takeNext 1 = .ok (.getfield 33, 3) := by decide +kernel
theorem dX8_takeNext_4 : decode cX8_takeNext 4 = .ok (.aload_n 0, 1) := by decide +kernel
theorem dX8_takeNext_5 : decode cX8_takeNext 5 = .ok (.getfield 10, 3) := by decide +kernel
theorem dX8_takeNext_8 : decode cX8_takeNext 8 = .ok (.aload_n 0, 1) := by decide +kernel
theorem dX8_takeNext_9 : decode cX8_takeNext 9 = .ok (.getfield 37, 3) := by decide +kernel
theorem dX8_takeNext_12 : decode cX8_takeNext 12 = .ok (.invokevirtual 99, 3) := by decide +kernel
theorem dX8_takeNext_15 : decode cX8_takeNext 15 = .ok (.aload_n 0, 1) := by decide +kernel
theorem dX8_takeNext_16 : decode cX8_takeNext 16 = .ok (.getfield 41, 3) := by decide +kernel
theorem dX8_takeNext_19 : decode cX8_takeNext 19 = .ok (.invokevirtual 102, 3) := by decide +kernel
theorem dX8_takeNext_22 : decode cX8_takeNext 22 = .ok (.aload_n 0, 1) := by decide +kernel
theorem dX8_takeNext_23 : decode cX8_takeNext 23 = .ok (.aload_n 0, 1) := by decide +kernel
theorem dX8_takeNext_24 : decode cX8_takeNext 24 = .ok (.getfield 33, 3) := by decide +kernel
theorem dX8_takeNext_27 : decode cX8_takeNext 27 = .ok (.invokevirtual 106, 3) := by decide +kernel
theorem dX8_takeNext_30 : decode cX8_takeNext 30 = .ok (.putfield 44, 3) := by decide +kernel
theorem dX8_takeNext_33 : decode cX8_takeNext 33 = .ok (.aload_n 0, 1) := by decide +kernel
theorem dX8_takeNext_34 : decode cX8_takeNext 34 = .ok (.getfield 44, 3) := by decide +kernel
theorem dX8_takeNext_37 : decode cX8_takeNext 37 = .ok (.iconst 3, 1) := by decide +kernel
theorem dX8_takeNext_38 : decode cX8_takeNext 38 = .ok (.if_icmp .eq 5, 3) := by decide +kernel
theorem dX8_takeNext_41 : decode cX8_takeNext 41 = .ok (.iconst 0, 1) := by decide +kernel
theorem dX8_takeNext_42 : decode cX8_takeNext 42 = .ok (.ireturn, 1) := by decide +kernel
theorem dX8_takeNext_43 : decode cX8_takeNext 43 = .ok (.aload_n 0, 1) := by decide +kernel
theorem dX8_takeNext_44 : decode cX8_takeNext 44 = .ok (.getfield 33, 3) := by decide +kernel
theorem dX8_takeNext_47 : decode cX8_takeNext 47 = .ok (.invokevirtual 110, 3) := by decide +kernel
theorem dX8_takeNext_50 : decode cX8_takeNext 50 = .ok (.ifCond .eq 10, 3) := by decide +kernel
theorem dX8_takeNext_53 : decode cX8_takeNext 53 = .ok (.aload_n 0, 1) := by decide +kernel
theorem dX8_takeNext_54 : decode cX8_takeNext 54 = .ok (.invokevirtual 113, 3) := by decide +kernel
theorem dX8_takeNext_57 : decode cX8_takeNext 57 = .ok (.goto 33, 3) := by decide +kernel
theorem dX8_takeNext_60 : decode cX8_takeNext 60 = .ok (.aload_n 0, 1) := by decide +kernel
theorem dX8_takeNext_61 : decode cX8_takeNext 61 = .ok (.getfield 26, 3) := by decide +kernel
theorem dX8_takeNext_64 : decode cX8_takeNext 64 = .ok (.aload_n 0, 1) := by decide +kernel
theorem dX8_takeNext_65 : decode cX8_takeNext 65 = .ok (.getfield 33, 3) := by decide +kernel
theorem dX8_takeNext_68 : decode cX8_takeNext 68 = .ok (.invokevirtual 116, 3) := by decide +kernel
theorem dX8_takeNext_71 : decode cX8_takeNext 71 = .ok (.aload_n 0, 1) := by decide +kernel
theorem dX8_takeNext_72 : decode cX8_takeNext 72 = .ok (.getfield 33, 3) := by decide +kernel
theorem dX8_takeNext_75 : decode cX8_takeNext 75 = .ok (.aload_n 0, 1) := by decide +kernel
theorem dX8_takeNext_76 : decode cX8_takeNext 76 = .ok (.getfield 19, 3) := by decide +kernel
theorem dX8_takeNext_79 : decode cX8_takeNext 79 = .ok (.aload_n 0, 1) := by decide +kernel
theorem dX8_takeNext_80 : decode cX8_takeNext 80 = .ok (.getfield 10, 3) := by decide +kernel
theorem dX8_takeNext_83 : decode cX8_takeNext 83 = .ok (.invokestatic 120, 3) := by decide +kernel
theorem dX8_takeNext_86 : decode cX8_takeNext 86 = .ok (.aload_n 0, 1) := by decide +kernel
theorem dX8_takeNext_87 : decode cX8_takeNext 87 = .ok (.invokevirtual 126, 3) := by decide +kernel
theorem dX8_takeNext_90 : decode cX8_takeNext 90 = .ok (.iconst 1, 1) := by decide +kernel
theorem dX8_takeNext_91 : decode cX8_takeNext 91 = .ok (.ireturn, 1) := by decide +kernel
set_option maxRecDepth 20000 in
theorem ggX8_takeJump_X2_goesElsewhere_1 : ∀ w ∈ (wsX2_goesElsewhere_r1 : List Cond), w ∈ wsX8_takeJump := List.forall_mem_cons.mpr ⟨List.mem_of_getElem? (i := 10) rfl, List.forall_mem_cons.mpr ⟨List.mem_of_getElem? (i := 11) rfl, List.forall_mem_cons.mpr ⟨List.mem_of_getElem? (i := 12) rfl, List.forall_mem_cons.mpr ⟨List.mem_of_getElem? (i := 13) rfl, List.forall_mem_cons.mpr ⟨List.mem_of_getElem? (i := 14) rfl, List.forall_mem_cons.mpr ⟨List.mem_of_getElem? (i := 15) rfl, List.forall_mem_cons.mpr ⟨List.mem_of_getElem? (i := 16) rfl, List.forall_mem_cons.mpr ⟨List.mem_of_getElem? (i := 17) rfl, List.forall_mem_cons.mpr ⟨List.mem_of_getElem? (i := 18) rfl, List.forall_mem_cons.mpr ⟨List.mem_of_getElem? (i := 19) rfl, List.forall_mem_cons.mpr ⟨List.mem_of_getElem? (i := 20) rfl, List.forall_mem_cons.mpr ⟨List.mem_of_getElem? (i := 21) rfl, List.forall_mem_cons.mpr ⟨List.mem_of_getElem? (i := 22) rfl, List.forall_mem_cons.mpr ⟨List.mem_of_getElem? (i := 23) rfl, List.forall_mem_cons.mpr ⟨List.mem_of_getElem? (i := 24) rfl, List.forall_mem_cons.mpr ⟨List.mem_of_getElem? (i := 25) rfl, List.forall_mem_cons.mpr ⟨List.mem_of_getElem? (i := 26) rfl, List.forall_mem_cons.mpr ⟨List.mem_of_getElem? (i := 27) rfl, List.forall_mem_cons.mpr ⟨List.mem_of_getElem? (i := 28) rfl, List.forall_mem_cons.mpr ⟨List.mem_of_getElem? (i := 29) rfl, List.forall_mem_cons.mpr ⟨List.mem_of_getElem? (i := 30) rfl, List.forall_mem_cons.mpr ⟨List.mem_of_getElem? (i := 31) rfl, List.forall_mem_cons.mpr ⟨List.mem_of_getElem? (i := 32) rfl, List.forall_mem_cons.mpr ⟨List.mem_of_getElem? (i := 33) rfl, fun _ h => nomatch h⟩⟩⟩⟩⟩⟩⟩⟩⟩⟩⟩⟩⟩⟩⟩⟩⟩⟩⟩⟩⟩⟩⟩⟩
set_option maxRecDepth 20000 in
theorem ggX8_takeJump_X2_goesElsewhere_2 : ∀ w ∈ (wsX2_goesElsewhere_r2 : List Cond), w ∈ wsX8_takeJump := List.forall_mem_cons.mpr ⟨List.mem_of_getElem? (i := 8) rfl, List.forall_mem_cons.mpr ⟨List.mem_of_getElem? (i := 34) rfl, List.forall_mem_cons.mpr ⟨List.mem_of_getElem? (i := 35) rfl, List.forall_mem_cons.mpr ⟨List.mem_of_getElem? (i := 36) rfl, List.forall_mem_cons.mpr ⟨List.mem_of_getElem? (i := 37) rfl, List.forall_mem_cons.mpr ⟨List.mem_of_getElem? (i := 38) rfl, List.forall_mem_cons.mpr ⟨List.mem_of_getElem? (i := 39) rfl, List.forall_mem_cons.mpr ⟨List.mem_of_getElem? (i := 40) rfl, List.forall_mem_cons.mpr ⟨List.mem_of_getElem? (i := 41) rfl, List.forall_mem_cons.mpr ⟨List.mem_of_getElem? (i := 42) rfl, List.forall_mem_cons.mpr ⟨List.mem_of_getElem? (i := 43) rfl, List.forall_mem_cons.mpr ⟨List.mem_of_getElem? (i := 44) rfl, List.forall_mem_cons.mpr ⟨List.mem_of_getElem? (i := 45) rfl, List.forall_mem_cons.mpr ⟨List.mem_of_getElem? (i := 46) rfl, List.forall_mem_cons.mpr ⟨List.mem_of_getElem? (i := 47) rfl, List.forall_mem_cons.mpr ⟨List.mem_of_getElem? (i := 48) rfl, List.forall_mem_cons.mpr ⟨List.mem_of_getElem? (i := 49) rfl, List.forall_mem_cons.mpr ⟨List.mem_of_getElem? (i := 50) rfl, List.forall_mem_cons.mpr ⟨List.mem_of_getElem? (i := 51) rfl, List.forall_mem_cons.mpr ⟨List.mem_of_getElem? (i := 52) rfl, List.forall_mem_cons.mpr ⟨List.mem_of_getElem? (i := 53) rfl, List.forall_mem_cons.mpr ⟨List.mem_of_getElem? (i := 54) rfl, List.forall_mem_cons.mpr ⟨List.mem_of_getElem? (i := 55) rfl, List.forall_mem_cons.mpr ⟨List.mem_of_getElem? (i := 56) rfl, fun _ h => nomatch h⟩⟩⟩⟩⟩⟩⟩⟩⟩⟩⟩⟩⟩⟩⟩⟩⟩⟩⟩⟩⟩⟩⟩⟩
set_option maxRecDepth 20000 in
theorem ggX8_takeJump_X2_goesElsewhere_3 : ∀ w ∈ (wsX2_goesElsewhere_r3 : List Cond), w ∈ wsX8_takeJump := List.forall_mem_cons.mpr ⟨List.mem_of_getElem? (i := 57) rfl, List.forall_mem_cons.mpr ⟨List.mem_of_getElem? (i := 58) rfl, List.forall_mem_cons.mpr ⟨List.mem_of_getElem? (i := 59) rfl, List.forall_mem_cons.mpr ⟨List.mem_of_getElem? (i := 60) rfl, List.forall_mem_cons.mpr ⟨List.mem_of_getElem? (i := 61) rfl, fun _ h => nomatch h⟩⟩⟩⟩⟩
set_option maxRecDepth 20000 in
theorem ggX8_takeJump_X2_goesElsewhere_4 : ∀ w ∈ wsX10, w ∈ wsX8_takeJump := fun w h => List.mem_cons_of_mem _ (List.mem_append_left _ (List.mem_append_left _ (List.mem_append_left _ (List.mem_append_left _ (List.mem_append_right _ (h))))))
set_option maxRecDepth 20000 in
theorem ggX8_takeJump_X2_goesElsewhere_5 : ∀ w ∈ wsX60, w ∈ wsX8_takeJump := fun w h => List.mem_cons_of_mem _ (List.mem_append_left _ (List.mem_append_left _ (List.mem_append_left _ (List.mem_append_right _ (h)))))
theorem ggX8_takeJump_X2_goesElsewhere_m : ∀ w ∈ wsX2_goesElsewhere, w ∈ wsX8_takeJump := fun w h => (List.mem_cons.mp h).elim (fun e => by rw [e]; exact List.mem_of_getElem? (i := 9) rfl) (fun h => (List.mem_append.mp h).elim (fun h => (List.mem_append.mp h).elim (fun h => (List.mem_append.mp h).elim (fun h => ggX8_takeJump_X2_goesElsewhere_1 w h) (fun h => (List.mem_append.mp h).elim (fun h => ggX8_takeJump_X2_goesElsewhere_2 w h) (fun h => ggX8_takeJump_X2_goesElsewhere_3 w h))) (fun h => ggX8_takeJump_X2_goesElsewhere_4 w h)) (fun h => ggX8_takeJump_X2_goesElsewhere_5 w h))
set_option maxRecDepth 20000 in
theorem ggX8_takeJump_X2_goesElsewhere : GoodIn wsX8_takeJump wsX2_goesElsewhere := goodIn_sub ggX8_takeJump_X2_goesElsewhere_m (by decide +kernel)
set_option maxRecDepth 20000 in
theorem ggX8_takeJump_X0_doJump_1 : ∀ w ∈ (wsX0_doJump_r1 : List Cond), w ∈ wsX8_takeJump := List.forall_mem_cons.mpr ⟨List.mem_of_getElem? (i := 67) rfl, List.forall_mem_cons.mpr ⟨List.mem_of_getElem? (i := 68) rfl, List.forall_mem_cons.mpr ⟨List.mem_of_getElem? (i := 69) rfl, List.forall_mem_cons.mpr ⟨List.mem_of_getElem? (i := 70) rfl, List.forall_mem_cons.mpr ⟨List.mem_of_getElem? (i := 71) rfl, List.forall_mem_cons.mpr ⟨List.mem_of_getElem? (i := 72) rfl, List.forall_mem_cons.mpr ⟨List.mem_of_getElem? (i := 73) rfl, List.forall_mem_cons.mpr ⟨List.mem_of_getElem? (i := 13) rfl, List.forall_mem_cons.mpr ⟨List.mem_of_getElem? (i := 74) rfl, List.forall_mem_cons.mpr ⟨List.mem_of_getElem? (i := 75) rfl, List.forall_mem_cons.mpr ⟨List.mem_of_getElem? (i := 76) rfl, List.forall_mem_cons.mpr ⟨List.mem_of_getElem? (i := 77) rfl, List.forall_mem_cons.mpr ⟨List.mem_of_getElem? (i := 78) rfl, List.forall_mem_cons.mpr ⟨List.mem_of_getElem? (i := 79) rfl, List.forall_mem_cons.mpr ⟨List.mem_of_getElem? (i := 80) rfl, List.forall_mem_cons.mpr ⟨List.mem_of_getElem? (i := 81) rfl, List.forall_mem_cons.mpr ⟨List.mem_of_getElem? (i := 82) rfl, List.forall_mem_cons.mpr ⟨List.mem_of_getElem? (i := 83) rfl, List.forall_mem_cons.mpr ⟨List.mem_of_getElem? (i := 84) rfl, List.forall_mem_cons.mpr ⟨List.mem_of_getElem? (i := 85) rfl, List.forall_mem_cons.mpr ⟨List.mem_of_getElem? (i := 86) rfl, List.forall_mem_cons.mpr ⟨List.mem_of_getElem? (i := 87) rfl, List.forall_mem_cons.mpr ⟨List.mem_of_getElem? (i := 11) rfl, List.forall_mem_cons.mpr ⟨List.mem_of_getElem? (i := 12) rfl, fun _ h => nomatch h⟩⟩⟩⟩⟩⟩⟩⟩⟩⟩⟩⟩⟩⟩⟩⟩⟩⟩⟩⟩⟩⟩⟩⟩
set_option maxRecDepth 20000 in
theorem ggX8_takeJump_X0_doJump_2 : ∀ w ∈ (wsX0_doJump_r2 : List Cond), w ∈ wsX8_takeJump := List.forall_mem_cons.mpr ⟨List.mem_of_getElem? (i := 14) rfl, List.forall_mem_cons.mpr ⟨List.mem_of_getElem? (i := 15) rfl, List.forall_mem_cons.mpr ⟨List.mem_of_getElem? (i := 88) rfl, List.forall_mem_cons.mpr ⟨List.mem_of_getElem? (i := 89) rfl, List.forall_mem_cons.mpr ⟨List.mem_of_getElem? (i := 90) rfl, List.forall_mem_cons.mpr ⟨List.mem_of_getElem? (i := 65) rfl, List.forall_mem_cons.mpr ⟨List.mem_of_getElem? (i := 91) rfl, List.forall_mem_cons.mpr ⟨List.mem_of_getElem? (i := 92) rfl, List.forall_mem_cons.mpr ⟨List.mem_of_getElem? (i := 93) rfl, List.forall_mem_cons.mpr ⟨List.mem_of_getElem? (i := 94) rfl, List.forall_mem_cons.mpr ⟨List.mem_of_getElem? (i := 95) rfl, List.forall_mem_cons.mpr ⟨List.mem_of_getElem? (i := 96) rfl, List.forall_mem_cons.mpr ⟨List.mem_of_getElem? (i := 97) rfl, List.forall_mem_cons.mpr ⟨List.mem_of_getElem? (i := 98) rfl, fun _ h => nomatch h⟩⟩⟩⟩⟩⟩⟩⟩⟩⟩⟩⟩⟩⟩
set_option maxRecDepth 20000 in
theorem ggX8_takeJump_X0_doJump_3 : ∀ w ∈ wsX00, w ∈ wsX8_takeJump := fun w h => List.mem_cons_of_mem _ (List.mem_append_left _ (List.mem_append_left _ (List.mem_append_right _ (h))))
set_option maxRecDepth 20000 in
theorem ggX8_takeJump_X0_doJump_4 : ∀ w ∈ wsX10, w ∈ wsX8_takeJump := fun w h => List.mem_cons_of_mem _ (List.mem_append_left _ (List.mem_append_left _ (List.mem_append_left _ (List.mem_append_left _ (List.mem_append_right _ (h))))))
set_option maxRecDepth 20000 in
theorem ggX8_takeJump_X0_doJump_5 : ∀ w ∈ wsX50, w ∈ wsX8_takeJump := fun w h => List.mem_cons_of_mem _ (List.mem_append_left _ (List.mem_append_right _ (h)))
theorem ggX8_takeJump_X0_doJump_m : ∀ w ∈ wsX0_doJump, w ∈ wsX8_takeJump := fun w h => (List.mem_cons.mp h).elim (fun e => by rw [e]; exact List.mem_of_getElem? (i := 66) rfl) (fun h => (List.mem_append.mp h).elim (fun h => (List.mem_append.mp h).elim (fun h => (List.mem_append.mp h).elim (fun h => (List.mem_append.mp h).elim (fun h => ggX8_takeJump_X0_doJump_1 w h) (fun h => ggX8_takeJump_X0_doJump_2 w h)) (fun h => ggX8_takeJump_X0_doJump_3 w h)) (fun h => ggX8_takeJump_X0_doJump_4 w h)) (fun h => ggX8_takeJump_X0_doJump_5 w h))
set_option maxRecDepth 20000 in
theorem ggX8_takeJump_X0_doJump : GoodIn wsX8_takeJump wsX0_doJump := goodIn_sub ggX8_takeJump_X0_doJump_m (by decide +kernel)
set_option maxRecDepth 20000 in
theorem ggX8_takeJump_X8_goOnBehind_1 : ∀ w ∈ ([.fieldLink RX8 41 "ScoreboardCore" "parcel" "I", .fieldLink RX8 33 "ScoreboardCore" "instruction" "LScoreboardCore$Instruction;", .fieldLink RX8 37 "ScoreboardCore" "word" "I", .methodLink RX8 155 yX1_parcels, .instanceMethod yX1_parcels, .selects RX1 yX1_parcels yX1_parcels, .initialized RX1, .code yX1_parcels cX1_parcels 2 (some .int), .fieldLink RX1 25 "ScoreboardCore$Instruction" "op" "I", .methodLink RX1 57 yX1_isJump, .instanceMethod yX1_isJump, .selects RX1 yX1_isJump yX1_isJump, .code yX1_isJump cX1_isJump 1 (some .boolean), .methodLink RX8 71 yX8_goOnAt, .instanceMethod yX8_goOnAt, .selects RX8 yX8_goOnAt yX8_goOnAt, .initialized RX8, .code yX8_goOnAt cX8_goOnAt 2 none, .fieldLink RX8 44 "ScoreboardCore" "stop" "I", .methodLink RX8 47 yX3_holds, .static yX3_holds, .initialized RX3, .code yX3_holds cX3_holds 1 (some .boolean)] : List Cond), w ∈ wsX8_takeJump := List.forall_mem_cons.mpr ⟨List.mem_of_getElem? (i := 104) rfl, List.forall_mem_cons.mpr ⟨List.mem_of_getElem? (i := 1) rfl, List.forall_mem_cons.mpr ⟨List.mem_of_getElem? (i := 5) rfl, List.forall_mem_cons.mpr ⟨List.mem_of_getElem? (i := 105) rfl, List.forall_mem_cons.mpr ⟨List.mem_of_getElem? (i := 106) rfl, List.forall_mem_cons.mpr ⟨List.mem_of_getElem? (i := 107) rfl, List.forall_mem_cons.mpr ⟨List.mem_of_getElem? (i := 13) rfl, List.forall_mem_cons.mpr ⟨List.mem_of_getElem? (i := 108) rfl, List.forall_mem_cons.mpr ⟨List.mem_of_getElem? (i := 15) rfl, List.forall_mem_cons.mpr ⟨List.mem_of_getElem? (i := 109) rfl, List.forall_mem_cons.mpr ⟨List.mem_of_getElem? (i := 110) rfl, List.forall_mem_cons.mpr ⟨List.mem_of_getElem? (i := 111) rfl, List.forall_mem_cons.mpr ⟨List.mem_of_getElem? (i := 112) rfl, List.forall_mem_cons.mpr ⟨List.mem_of_getElem? (i := 113) rfl, List.forall_mem_cons.mpr ⟨List.mem_of_getElem? (i := 114) rfl, List.forall_mem_cons.mpr ⟨List.mem_of_getElem? (i := 115) rfl, List.forall_mem_cons.mpr ⟨List.mem_of_getElem? (i := 102) rfl, List.forall_mem_cons.mpr ⟨List.mem_of_getElem? (i := 116) rfl, List.forall_mem_cons.mpr ⟨List.mem_of_getElem? (i := 117) rfl, List.forall_mem_cons.mpr ⟨List.mem_of_getElem? (i := 118) rfl, List.forall_mem_cons.mpr ⟨List.mem_of_getElem? (i := 119) rfl, List.forall_mem_cons.mpr ⟨List.mem_of_getElem? (i := 120) rfl, List.forall_mem_cons.mpr ⟨List.mem_of_getElem? (i := 121) rfl, fun _ h => nomatch h⟩⟩⟩⟩⟩⟩⟩⟩⟩⟩⟩⟩⟩⟩⟩⟩⟩⟩⟩⟩⟩⟩⟩
set_option maxRecDepth 20000 in
theorem ggX8_takeJump_X8_goOnBehind_2 : ∀ w ∈ wsX80, w ∈ wsX8_takeJump := fun w h => List.mem_cons_of_mem _ (List.mem_append_left _ (List.mem_append_left _ (List.mem_append_left _ (List.mem_append_left _ (List.mem_append_left _ (List.mem_append_right _ (h)))))))
set_option maxRecDepth 20000 in
theorem ggX8_takeJump_X8_goOnBehind_3 : ∀ w ∈ wsX10, w ∈ wsX8_takeJump := fun w h => List.mem_cons_of_mem _ (List.mem_append_left _ (List.mem_append_left _ (List.mem_append_left _ (List.mem_append_left _ (List.mem_append_right _ (h))))))
theorem ggX8_takeJump_X8_goOnBehind_m : ∀ w ∈ wsX8_goOnBehind, w ∈ wsX8_takeJump := fun w h => (List.mem_cons.mp h).elim (fun e => by rw [e]; exact List.mem_of_getElem? (i := 103) rfl) (fun h => (List.mem_append.mp h).elim (fun h => (List.mem_append.mp h).elim (fun h => ggX8_takeJump_X8_goOnBehind_1 w h) (fun h => ggX8_takeJump_X8_goOnBehind_2 w h)) (fun h => ggX8_takeJump_X8_goOnBehind_3 w h))
set_option maxRecDepth 20000 in
theorem ggX8_takeJump_X8_goOnBehind : GoodIn wsX8_takeJump wsX8_goOnBehind := goodIn_sub ggX8_takeJump_X8_goOnBehind_m (by decide +kernel)
set_option maxRecDepth 20000 in
theorem ggX8_takeJump_X2_target_1 : ∀ w ∈ (wsX2_target_r1 : List Cond), w ∈ wsX8_takeJump := List.forall_mem_cons.mpr ⟨List.mem_of_getElem? (i := 125) rfl, List.forall_mem_cons.mpr ⟨List.mem_of_getElem? (i := 10) rfl, List.forall_mem_cons.mpr ⟨List.mem_of_getElem? (i := 11) rfl, List.forall_mem_cons.mpr ⟨List.mem_of_getElem? (i := 12) rfl, List.forall_mem_cons.mpr ⟨List.mem_of_getElem? (i := 13) rfl, List.forall_mem_cons.mpr ⟨List.mem_of_getElem? (i := 14) rfl, List.forall_mem_cons.mpr ⟨List.mem_of_getElem? (i := 15) rfl, List.forall_mem_cons.mpr ⟨List.mem_of_getElem? (i := 126) rfl, List.forall_mem_cons.mpr ⟨List.mem_of_getElem? (i := 127) rfl, List.forall_mem_cons.mpr ⟨List.mem_of_getElem? (i := 128) rfl, List.forall_mem_cons.mpr ⟨List.mem_of_getElem? (i := 129) rfl, List.forall_mem_cons.mpr ⟨List.mem_of_getElem? (i := 130) rfl, List.forall_mem_cons.mpr ⟨List.mem_of_getElem? (i := 16) rfl, List.forall_mem_cons.mpr ⟨List.mem_of_getElem? (i := 17) rfl, List.forall_mem_cons.mpr ⟨List.mem_of_getElem? (i := 18) rfl, List.forall_mem_cons.mpr ⟨List.mem_of_getElem? (i := 19) rfl, List.forall_mem_cons.mpr ⟨List.mem_of_getElem? (i := 20) rfl, List.forall_mem_cons.mpr ⟨List.mem_of_getElem? (i := 43) rfl, List.forall_mem_cons.mpr ⟨List.mem_of_getElem? (i := 44) rfl, List.forall_mem_cons.mpr ⟨List.mem_of_getElem? (i := 45) rfl, List.forall_mem_cons.mpr ⟨List.mem_of_getElem? (i := 29) rfl, List.forall_mem_cons.mpr ⟨List.mem_of_getElem? (i := 46) rfl, List.forall_mem_cons.mpr ⟨List.mem_of_getElem? (i := 31) rfl, List.forall_mem_cons.mpr ⟨List.mem_of_getElem? (i := 131) rfl, fun _ h => nomatch h⟩⟩⟩⟩⟩⟩⟩⟩⟩⟩⟩⟩⟩⟩⟩⟩⟩⟩⟩⟩⟩⟩⟩⟩
set_option maxRecDepth 20000 in
theorem ggX8_takeJump_X2_target_2 : ∀ w ∈ (wsX2_target_r2 : List Cond), w ∈ wsX8_takeJump := List.forall_mem_cons.mpr ⟨List.mem_of_getElem? (i := 132) rfl, List.forall_mem_cons.mpr ⟨List.mem_of_getElem? (i := 37) rfl, List.forall_mem_cons.mpr ⟨List.mem_of_getElem? (i := 133) rfl, fun _ h => nomatch h⟩⟩⟩
set_option maxRecDepth 20000 in
theorem ggX8_takeJump_X2_target_3 : ∀ w ∈ wsX10, w ∈ wsX8_takeJump := fun w h => List.mem_cons_of_mem _ (List.mem_append_left _ (List.mem_append_left _ (List.mem_append_left _ (List.mem_append_left _ (List.mem_append_right _ (h))))))
set_option maxRecDepth 20000 in
theorem ggX8_takeJump_X2_target_4 : ∀ w ∈ wsX60, w ∈ wsX8_takeJump := fun w h => List.mem_cons_of_mem _ (List.mem_append_left _ (List.mem_append_left _ (List.mem_append_left _ (List.mem_append_right _ (h)))))
theorem ggX8_takeJump_X2_target_m : ∀ w ∈ wsX2_target, w ∈ wsX8_takeJump := fun w h => (List.mem_cons.mp h).elim (fun e => by rw [e]; exact List.mem_of_getElem? (i := 124) rfl) (fun h => (List.mem_append.mp h).elim (fun h => (List.mem_append.mp h).elim (fun h => (List.mem_append.mp h).elim (fun h => ggX8_takeJump_X2_target_1 w h) (fun h => ggX8_takeJump_X2_target_2 w h)) (fun h => ggX8_takeJump_X2_target_3 w h)) (fun h => ggX8_takeJump_X2_target_4 w h))
set_option maxRecDepth 20000 in
theorem ggX8_takeJump_X2_target : GoodIn wsX8_takeJump wsX2_target := goodIn_sub ggX8_takeJump_X2_target_m (by decide +kernel)
set_option maxRecDepth 20000 in
theorem ggX8_takeJump_X1_op_1 : ∀ w ∈ ([.fieldLink RX1 25 "ScoreboardCore$Instruction" "op" "I"] : List Cond), w ∈ wsX8_takeJump := List.forall_mem_cons.mpr ⟨List.mem_of_getElem? (i := 15) rfl, fun _ h => nomatch h⟩
set_option maxRecDepth 20000 in
theorem ggX8_takeJump_X1_op_2 : ∀ w ∈ wsX10, w ∈ wsX8_takeJump := fun w h => List.mem_cons_of_mem _ (List.mem_append_left _ (List.mem_append_left _ (List.mem_append_left _ (List.mem_append_left _ (List.mem_append_right _ (h))))))
theorem ggX8_takeJump_X1_op_m : ∀ w ∈ wsX1_op, w ∈ wsX8_takeJump := fun w h => (List.mem_cons.mp h).elim (fun e => by rw [e]; exact List.mem_of_getElem? (i := 14) rfl) (fun h => (List.mem_append.mp h).elim (fun h => ggX8_takeJump_X1_op_1 w h) (fun h => ggX8_takeJump_X1_op_2 w h))
set_option maxRecDepth 20000 in
theorem ggX8_takeJump_X1_op : GoodIn wsX8_takeJump wsX1_op := goodIn_sub ggX8_takeJump_X1_op_m (by decide +kernel)
set_option maxRecDepth 20000 in
theorem ggX8_takeJump_X1_constant_1 : ∀ w ∈ ([.fieldLink RX1 38 "ScoreboardCore$Instruction" "constant" "I"] : List Cond), w ∈ wsX8_takeJump := List.forall_mem_cons.mpr ⟨List.mem_of_getElem? (i := 130) rfl, fun _ h => nomatch h⟩
set_option maxRecDepth 20000 in
theorem ggX8_takeJump_X1_constant_2 : ∀ w ∈ wsX10, w ∈ wsX8_takeJump := fun w h => List.mem_cons_of_mem _ (List.mem_append_left _ (List.mem_append_left _ (List.mem_append_left _ (List.mem_append_left _ (List.mem_append_right _ (h))))))
theorem ggX8_takeJump_X1_constant_m : ∀ w ∈ wsX1_constant, w ∈ wsX8_takeJump := fun w h => (List.mem_cons.mp h).elim (fun e => by rw [e]; exact List.mem_of_getElem? (i := 129) rfl) (fun h => (List.mem_append.mp h).elim (fun h => ggX8_takeJump_X1_constant_1 w h) (fun h => ggX8_takeJump_X1_constant_2 w h))
set_option maxRecDepth 20000 in
theorem ggX8_takeJump_X1_constant : GoodIn wsX8_takeJump wsX1_constant := goodIn_sub ggX8_takeJump_X1_constant_m (by decide +kernel)
set_option maxRecDepth 20000 in
theorem ggX8_takeJump_X2_wayBack_1 : ∀ w ∈ ([.constantLong RX2 51 (72057594037927936)] : List Cond), w ∈ wsX8_takeJump := List.forall_mem_cons.mpr ⟨List.mem_of_getElem? (i := 139) rfl, fun _ h => nomatch h⟩
theorem ggX8_takeJump_X2_wayBack_m : ∀ w ∈ wsX2_wayBack, w ∈ wsX8_takeJump := fun w h => (List.mem_cons.mp h).elim (fun e => by rw [e]; exact List.mem_of_getElem? (i := 138) rfl) (fun h => ggX8_takeJump_X2_wayBack_1 w h)
set_option maxRecDepth 20000 in
theorem ggX8_takeJump_X2_wayBack : GoodIn wsX8_takeJump wsX2_wayBack := goodIn_sub ggX8_takeJump_X2_wayBack_m (by decide +kernel)
set_option maxRecDepth 20000 in
theorem ggX8_takeJump_X3_storeInProgram_1 : ∀ w ∈ ([.fieldLink RX3 15 "ScoreboardCore$Memory" "program" "[J", .constantLong RX3 22 (1152921504606846975), .methodLink RX3 30 yX3_store, .instanceMethod yX3_store, .selects RX3 yX3_store yX3_store, .initialized RX3, .code yX3_store cX3_store 4 none, .fieldLink RX3 9 "ScoreboardCore$Memory" "words" "[J", .methodLink RX3 18 yX3_holds, .static yX3_holds, .code yX3_holds cX3_holds 1 (some .boolean)] : List Cond), w ∈ wsX8_takeJump := List.forall_mem_cons.mpr ⟨List.mem_of_getElem? (i := 144) rfl, List.forall_mem_cons.mpr ⟨List.mem_of_getElem? (i := 145) rfl, List.forall_mem_cons.mpr ⟨List.mem_of_getElem? (i := 146) rfl, List.forall_mem_cons.mpr ⟨List.mem_of_getElem? (i := 147) rfl, List.forall_mem_cons.mpr ⟨List.mem_of_getElem? (i := 148) rfl, List.forall_mem_cons.mpr ⟨List.mem_of_getElem? (i := 120) rfl, List.forall_mem_cons.mpr ⟨List.mem_of_getElem? (i := 149) rfl, List.forall_mem_cons.mpr ⟨List.mem_of_getElem? (i := 150) rfl, List.forall_mem_cons.mpr ⟨List.mem_of_getElem? (i := 151) rfl, List.forall_mem_cons.mpr ⟨List.mem_of_getElem? (i := 119) rfl, List.forall_mem_cons.mpr ⟨List.mem_of_getElem? (i := 121) rfl, fun _ h => nomatch h⟩⟩⟩⟩⟩⟩⟩⟩⟩⟩⟩
set_option maxRecDepth 20000 in
theorem ggX8_takeJump_X3_storeInProgram_2 : ∀ w ∈ wsX30, w ∈ wsX8_takeJump := fun w h => List.mem_cons_of_mem _ (List.mem_append_right _ (h))
theorem ggX8_takeJump_X3_storeInProgram_m : ∀ w ∈ wsX3_storeInProgram, w ∈ wsX8_takeJump := fun w h => (List.mem_cons.mp h).elim (fun e => by rw [e]; exact List.mem_of_getElem? (i := 143) rfl) (fun h => (List.mem_append.mp h).elim (fun h => ggX8_takeJump_X3_storeInProgram_1 w h) (fun h => ggX8_takeJump_X3_storeInProgram_2 w h))
set_option maxRecDepth 20000 in
theorem ggX8_takeJump_X3_storeInProgram : GoodIn wsX8_takeJump wsX3_storeInProgram := goodIn_sub ggX8_takeJump_X3_storeInProgram_m (by decide +kernel)
set_option maxRecDepth 20000 in
theorem ggX8_takeJump_X8_goOnAt_1 : ∀ w ∈ ([.fieldLink RX8 37 "ScoreboardCore" "word" "I", .fieldLink RX8 41 "ScoreboardCore" "parcel" "I", .fieldLink RX8 44 "ScoreboardCore" "stop" "I", .methodLink RX8 47 yX3_holds, .static yX3_holds, .initialized RX3, .code yX3_holds cX3_holds 1 (some .boolean)] : List Cond), w ∈ wsX8_takeJump := List.forall_mem_cons.mpr ⟨List.mem_of_getElem? (i := 5) rfl, List.forall_mem_cons.mpr ⟨List.mem_of_getElem? (i := 104) rfl, List.forall_mem_cons.mpr ⟨List.mem_of_getElem? (i := 117) rfl, List.forall_mem_cons.mpr ⟨List.mem_of_getElem? (i := 118) rfl, List.forall_mem_cons.mpr ⟨List.mem_of_getElem? (i := 119) rfl, List.forall_mem_cons.mpr ⟨List.mem_of_getElem? (i := 120) rfl, List.forall_mem_cons.mpr ⟨List.mem_of_getElem? (i := 121) rfl, fun _ h => nomatch h⟩⟩⟩⟩⟩⟩⟩
set_option maxRecDepth 20000 in
theorem ggX8_takeJump_X8_goOnAt_2 : ∀ w ∈ wsX80, w ∈ wsX8_takeJump := fun w h => List.mem_cons_of_mem _ (List.mem_append_left _ (List.mem_append_left _ (List.mem_append_left _ (List.mem_append_left _ (List.mem_append_left _ (List.mem_append_right _ (h)))))))
theorem ggX8_takeJump_X8_goOnAt_m : ∀ w ∈ wsX8_goOnAt, w ∈ wsX8_takeJump := fun w h => (List.mem_cons.mp h).elim (fun e => by rw [e]; exact List.mem_of_getElem? (i := 116) rfl) (fun h => (List.mem_append.mp h).elim (fun h => ggX8_takeJump_X8_goOnAt_1 w h) (fun h => ggX8_takeJump_X8_goOnAt_2 w h))
set_option maxRecDepth 20000 in
theorem ggX8_takeJump_X8_goOnAt : GoodIn wsX8_takeJump wsX8_goOnAt := goodIn_sub ggX8_takeJump_X8_goOnAt_m (by decide +kernel)
theorem dX8_takeJump_0 : decode cX8_takeJump 0 = .ok (.aload_n 0, 1) := by decide +kernel
theorem dX8_takeJump_1 : decode cX8_takeJump 1 = .ok (.getfield 33, 3) := by decide +kernel
theorem dX8_takeJump_4 : decode cX8_takeJump 4 = .ok (.aload_n 0, 1) := by decide +kernel
theorem dX8_takeJump_5 : decode cX8_takeJump 5 = .ok (.getfield 19, 3) := by decide +kernel
theorem dX8_takeJump_8 : decode cX8_takeJump 8 = .ok (.invokestatic 129, 3) := by decide +kernel
theorem dX8_takeJump_11 : decode cX8_takeJump 11 = .ok (.istore_n 1, 1) := by decide +kernel
theorem dX8_takeJump_12 : decode cX8_takeJump 12 = .ok (.aload_n 0, 1) := by decide +kernel
theorem dX8_takeJump_13 : decode cX8_takeJump 13 = .ok (.getfield 26, 3) := by decide +kernel
theorem dX8_takeJump_16 : decode cX8_takeJump 16 = .ok (.aload_n 0, 1) := by decide +kernel
theorem dX8_takeJump_17 : decode cX8_takeJump 17 = .ok (.getfield 33, 3) := by decide +kernel
theorem dX8_takeJump_20 : decode cX8_takeJump 20 = .ok (.iload_n 1, 1) := by decide +kernel
theorem dX8_takeJump_21 : decode cX8_takeJump 21 = .ok (.invokevirtual 135, 3) := by decide +kernel
theorem dX8_takeJump_24 : decode cX8_takeJump 24 = .ok (.iload_n 1, 1) := by decide +kernel
theorem dX8_takeJump_25 : decode cX8_takeJump 25 = .ok (.ifCond .ne 8, 3) := by decide +kernel
theorem dX8_takeJump_28 : decode cX8_takeJump 28 = .ok (.aload_n 0, 1) := by decide +kernel
theorem dX8_takeJump_29 : decode cX8_takeJump 29 = .ok (.invokevirtual 126, 3) := by decide +kernel
theorem dX8_takeJump_32 : decode cX8_takeJump 32 = .ok (.return_, 1) := by decide +kernel
theorem dX8_takeJump_33 : decode cX8_takeJump 33 = .ok (.aload_n 0, 1) := by decide +kernel
theorem dX8_takeJump_34 : decode cX8_takeJump 34 = .ok (.getfield 33, 3) := by decide +kernel
theorem dX8_takeJump_37 : decode cX8_takeJump 37 = .ok (.aload_n 0, 1) := by decide +kernel
theorem dX8_takeJump_38 : decode cX8_takeJump 38 = .ok (.getfield 19, 3) := by decide +kernel
theorem dX8_takeJump_41 : decode cX8_takeJump 41 = .ok (.invokestatic 139, 3) := by decide +kernel
theorem dX8_takeJump_44 : decode cX8_takeJump 44 = .ok (.istore_n 2, 1) := by decide +kernel
theorem dX8_takeJump_45 : decode cX8_takeJump 45 = .ok (.aload_n 0, 1) := by decide +kernel
theorem dX8_takeJump_46 : decode cX8_takeJump 46 = .ok (.getfield 33, 3) := by decide +kernel
theorem dX8_takeJump_49 : decode cX8_takeJump 49 = .ok (.invokevirtual 143, 3) := by decide +kernel
theorem dX8_takeJump_52 : decode cX8_takeJump 52 = .ok (.iconst 1, 1) := by decide +kernel
theorem dX8_takeJump_53 : decode cX8_takeJump 53 = .ok (.if_icmp .ne 24, 3) := by decide +kernel
theorem dX8_takeJump_56 : decode cX8_takeJump 56 = .ok (.aload_n 0, 1) := by decide +kernel
theorem dX8_takeJump_57 : decode cX8_takeJump 57 = .ok (.getfield 10, 3) := by decide +kernel
theorem dX8_takeJump_60 : decode cX8_takeJump 60 = .ok (.aload_n 0, 1) := by decide +kernel
theorem dX8_takeJump_61 : decode cX8_takeJump 61 = .ok (.getfield 33, 3) := by decide +kernel
theorem dX8_takeJump_64 : decode cX8_takeJump 64 = .ok (.invokevirtual 146, 3) := by decide +kernel
theorem dX8_takeJump_67 : decode cX8_takeJump 67 = .ok (.aload_n 0, 1) := by decide +kernel
theorem dX8_takeJump_68 : decode cX8_takeJump 68 = .ok (.getfield 37, 3) := by decide +kernel
theorem dX8_takeJump_71 : decode cX8_takeJump 71 = .ok (.invokestatic 149, 3) := by decide +kernel
theorem dX8_takeJump_74 : decode cX8_takeJump 74 = .ok (.invokevirtual 152, 3) := by decide +kernel
theorem dX8_takeJump_77 : decode cX8_takeJump 77 = .ok (.aload_n 0, 1) := by decide +kernel
theorem dX8_takeJump_78 : decode cX8_takeJump 78 = .ok (.iload_n 2, 1) := by decide +kernel
theorem dX8_takeJump_79 : decode cX8_takeJump 79 = .ok (.invokevirtual 71, 3) := by decide +kernel
theorem dX8_takeJump_82 : decode cX8_takeJump 82 = .ok (.return_, 1) := by decide +kernel
set_option maxRecDepth 20000 in
theorem ggX8_goOnBehind_X1_parcels_1 : ∀ w ∈ ([.fieldLink RX1 25 "ScoreboardCore$Instruction" "op" "I", .methodLink RX1 57 yX1_isJump, .instanceMethod yX1_isJump, .selects RX1 yX1_isJump yX1_isJump, .initialized RX1, .code yX1_isJump cX1_isJump 1 (some .boolean)] : List Cond), w ∈ wsX8_goOnBehind := List.forall_mem_cons.mpr ⟨List.mem_of_getElem? (i := 9) rfl, List.forall_mem_cons.mpr ⟨List.mem_of_getElem? (i := 10) rfl, List.forall_mem_cons.mpr ⟨List.mem_of_getElem? (i := 11) rfl, List.forall_mem_cons.mpr ⟨List.mem_of_getElem? (i := 12) rfl, List.forall_mem_cons.mpr ⟨List.mem_of_getElem? (i := 7) rfl, List.forall_mem_cons.mpr ⟨List.mem_of_getElem? (i := 13) rfl, fun _ h => nomatch h⟩⟩⟩⟩⟩⟩
set_option maxRecDepth 20000 in
theorem ggX8_goOnBehind_X1_parcels_2 : ∀ w ∈ wsX10, w ∈ wsX8_goOnBehind := fun w h => List.mem_cons_of_mem _ (List.mem_append_right _ (h))
theorem ggX8_goOnBehind_X1_parcels_m : ∀ w ∈ wsX1_parcels, w ∈ wsX8_goOnBehind := fun w h => (List.mem_cons.mp h).elim (fun e => by rw [e]; exact List.mem_of_getElem? (i := 8) rfl) (fun h => (List.mem_append.mp h).elim (fun h => ggX8_goOnBehind_X1_parcels_1 w h) (fun h => ggX8_goOnBehind_X1_parcels_2 w h))
set_option maxRecDepth 20000 in
theorem ggX8_goOnBehind_X1_parcels : GoodIn wsX8_goOnBehind wsX1_parcels := goodIn_sub ggX8_goOnBehind_X1_parcels_m (by decide +kernel)
set_option maxRecDepth 20000 in
theorem ggX8_goOnBehind_X8_goOnAt_1 : ∀ w ∈ ([.fieldLink RX8 37 "ScoreboardCore" "word" "I", .fieldLink RX8 41 "ScoreboardCore" "parcel" "I", .fieldLink RX8 44 "ScoreboardCore" "stop" "I", .methodLink RX8 47 yX3_holds, .static yX3_holds, .initialized RX3, .code yX3_holds cX3_holds 1 (some .boolean)] : List Cond), w ∈ wsX8_goOnBehind := List.forall_mem_cons.mpr ⟨List.mem_of_getElem? (i := 3) rfl, List.forall_mem_cons.mpr ⟨List.mem_of_getElem? (i := 1) rfl, List.forall_mem_cons.mpr ⟨List.mem_of_getElem? (i := 19) rfl, List.forall_mem_cons.mpr ⟨List.mem_of_getElem? (i := 20) rfl, List.forall_mem_cons.mpr ⟨List.mem_of_getElem? (i := 21) rfl, List.forall_mem_cons.mpr ⟨List.mem_of_getElem? (i := 22) rfl, List.forall_mem_cons.mpr ⟨List.mem_of_getElem? (i := 23) rfl, fun _ h => nomatch h⟩⟩⟩⟩⟩⟩⟩
set_option maxRecDepth 20000 in
theorem ggX8_goOnBehind_X8_goOnAt_2 : ∀ w ∈ wsX80, w ∈ wsX8_goOnBehind := fun w h => List.mem_cons_of_mem _ (List.mem_append_left _ (List.mem_append_right _ (h)))
theorem ggX8_goOnBehind_X8_goOnAt_m : ∀ w ∈ wsX8_goOnAt, w ∈ wsX8_goOnBehind := fun w h => (List.mem_cons.mp h).elim (fun e => by rw [e]; exact List.mem_of_getElem? (i := 18) rfl) (fun h => (List.mem_append.mp h).elim (fun h => ggX8_goOnBehind_X8_goOnAt_1 w h) (fun h => ggX8_goOnBehind_X8_goOnAt_2 w h))
set_option maxRecDepth 20000 in
theorem ggX8_goOnBehind_X8_goOnAt : GoodIn wsX8_goOnBehind wsX8_goOnAt := goodIn_sub ggX8_goOnBehind_X8_goOnAt_m (by decide +kernel)
theorem dX8_goOnBehind_0 : decode cX8_goOnBehind 0 = .ok (.aload_n 0, 1) := by decide +kernel
theorem dX8_goOnBehind_1 : decode cX8_goOnBehind 1 = .ok (.getfield 41, 3) := by decide +kernel
theorem dX8_goOnBehind_4 : decode cX8_goOnBehind 4 = .ok (.aload_n 0, 1) := by decide +kernel
theorem dX8_goOnBehind_5 : decode cX8_goOnBehind 5 = .ok (.getfield 33, 3) := by decide +kernel
theorem dX8_goOnBehind_8 : decode cX8_goOnBehind 8 = .ok (.invokevirtual 155, 3) := by decide +kernel
theorem dX8_goOnBehind_11 : decode cX8_goOnBehind 11 = .ok (.iadd, 1) := by decide +kernel
theorem dX8_goOnBehind_12 : decode cX8_goOnBehind 12 = .ok (.istore_n 1, 1) := by decide +kernel
theorem dX8_goOnBehind_13 : decode cX8_goOnBehind 13 = .ok (.iload_n 1, 1) := by decide +kernel
theorem dX8_goOnBehind_14 : decode cX8_goOnBehind 14 = .ok (.iconst 4, 1) := by decide +kernel
theorem dX8_goOnBehind_15 : decode cX8_goOnBehind 15 = .ok (.if_icmp .ge 11, 3) := by decide +kernel
theorem dX8_goOnBehind_18 : decode cX8_goOnBehind 18 = .ok (.aload_n 0, 1) := by decide +kernel
theorem dX8_goOnBehind_19 : decode cX8_goOnBehind 19 = .ok (.iload_n 1, 1) := by decide +kernel
theorem dX8_goOnBehind_20 : decode cX8_goOnBehind 20 = .ok (.putfield 41, 3) := by decide +kernel
theorem dX8_goOnBehind_23 : decode cX8_goOnBehind 23 = .ok (.goto 13, 3) := by decide +kernel
theorem dX8_goOnBehind_26 : decode cX8_goOnBehind 26 = .ok (.aload_n 0, 1) := by decide +kernel
theorem dX8_goOnBehind_27 : decode cX8_goOnBehind 27 = .ok (.aload_n 0, 1) := by decide +kernel
theorem dX8_goOnBehind_28 : decode cX8_goOnBehind 28 = .ok (.getfield 37, 3) := by decide +kernel
theorem dX8_goOnBehind_31 : decode cX8_goOnBehind 31 = .ok (.iconst 1, 1) := by decide +kernel
theorem dX8_goOnBehind_32 : decode cX8_goOnBehind 32 = .ok (.iadd, 1) := by decide +kernel
theorem dX8_goOnBehind_33 : decode cX8_goOnBehind 33 = .ok (.invokevirtual 71, 3) := by decide +kernel
theorem dX8_goOnBehind_36 : decode cX8_goOnBehind 36 = .ok (.return_, 1) := by decide +kernel
set_option maxRecDepth 20000 in
theorem ggX8_goOnAt_X3_holds_1 : ∀ w ∈ ([] : List Cond), w ∈ wsX8_goOnAt := fun _ h => nomatch h
theorem ggX8_goOnAt_X3_holds_m : ∀ w ∈ wsX3_holds, w ∈ wsX8_goOnAt := fun w h => (List.mem_cons.mp h).elim (fun e => by rw [e]; exact List.mem_of_getElem? (i := 7) rfl) (fun h => ggX8_goOnAt_X3_holds_1 w h)
set_option maxRecDepth 20000 in
theorem ggX8_goOnAt_X3_holds : GoodIn wsX8_goOnAt wsX3_holds := goodIn_sub ggX8_goOnAt_X3_holds_m (by decide +kernel)
theorem dX8_goOnAt_0 : decode cX8_goOnAt 0 = .ok (.aload_n 0, 1) := by decide +kernel
theorem dX8_goOnAt_1 : decode cX8_goOnAt 1 = .ok (.iload_n 1, 1) := by decide +kernel
theorem dX8_goOnAt_2 : decode cX8_goOnAt 2 = .ok (.putfield 37, 3) := by decide +kernel
theorem dX8_goOnAt_5 : decode cX8_goOnAt 5 = .ok (.aload_n 0, 1) := by decide +kernel
theorem dX8_goOnAt_6 : decode cX8_goOnAt 6 = .ok (.iconst 0, 1) := by decide +kernel
theorem dX8_goOnAt_7 : decode cX8_goOnAt 7 = .ok (.putfield 41, 3) := by decide +kernel
theorem dX8_goOnAt_10 : decode cX8_goOnAt 10 = .ok (.iload_n 1, 1) := by decide +kernel
theorem dX8_goOnAt_11 : decode cX8_goOnAt 11 = .ok (.invokestatic 47, 3) := by decide +kernel
theorem dX8_goOnAt_14 : decode cX8_goOnAt 14 = .ok (.ifCond .ne 8, 3) := by decide +kernel
theorem dX8_goOnAt_17 : decode cX8_goOnAt 17 = .ok (.aload_n 0, 1) := by decide +kernel
theorem dX8_goOnAt_18 : decode cX8_goOnAt 18 = .ok (.iconst 2, 1) := by decide +kernel
theorem dX8_goOnAt_19 : decode cX8_goOnAt 19 = .ok (.putfield 44, 3) := by decide +kernel
theorem dX8_goOnAt_22 : decode cX8_goOnAt 22 = .ok (.return_, 1) := by decide +kernel
