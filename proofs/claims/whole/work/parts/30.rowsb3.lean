theorem dX9_act_18 : decode cX9_act 18 = .ok (.invokevirtual 46, 3) := by decide +kernel
theorem dX9_act_21 : decode cX9_act 21 = .ok (.return_, 1) := by decide +kernel
theorem dX9_act_22 : decode cX9_act 22 = .ok (.aload_n 0, 1) := by decide +kernel
theorem dX9_act_23 : decode cX9_act 23 = .ok (.invokevirtual 135, 3) := by decide +kernel
theorem dX9_act_26 : decode cX9_act 26 = .ok (.lstore_n 1, 1) := by decide +kernel
theorem dX9_act_27 : decode cX9_act 27 = .ok (.aload_n 0, 1) := by decide +kernel
theorem dX9_act_28 : decode cX9_act 28 = .ok (.getfield 68, 3) := by decide +kernel
theorem dX9_act_31 : decode cX9_act 31 = .ok (.bipush 56, 2) := by decide +kernel
theorem dX9_act_33 : decode cX9_act 33 = .ok (.if_icmp .lt 18, 3) := by decide +kernel
theorem dX9_act_36 : decode cX9_act 36 = .ok (.aload_n 0, 1) := by decide +kernel
theorem dX9_act_37 : decode cX9_act 37 = .ok (.aload_n 0, 1) := by decide +kernel
theorem dX9_act_38 : decode cX9_act 38 = .ok (.getfield 71, 3) := by decide +kernel
theorem dX9_act_41 : decode cX9_act 41 = .ok (.lload_n 1, 1) := by decide +kernel
theorem dX9_act_42 : decode cX9_act 42 = .ok (.invokestatic 138, 3) := by decide +kernel
theorem dX9_act_45 : decode cX9_act 45 = .ok (.invokevirtual 46, 3) := by decide +kernel
theorem dX9_act_48 : decode cX9_act 48 = .ok (.goto 123, 3) := by decide +kernel
theorem dX9_act_51 : decode cX9_act 51 = .ok (.aload_n 0, 1) := by decide +kernel
theorem dX9_act_52 : decode cX9_act 52 = .ok (.getfield 68, 3) := by decide +kernel
theorem dX9_act_55 : decode cX9_act 55 = .ok (.bipush 48, 2) := by decide +kernel
theorem dX9_act_57 : decode cX9_act 57 = .ok (.if_icmp .lt 18, 3) := by decide +kernel
theorem dX9_act_60 : decode cX9_act 60 = .ok (.aload_n 0, 1) := by decide +kernel
theorem dX9_act_61 : decode cX9_act 61 = .ok (.bipush 16, 2) := by decide +kernel
theorem dX9_act_63 : decode cX9_act 63 = .ok (.aload_n 0, 1) := by decide +kernel
theorem dX9_act_64 : decode cX9_act 64 = .ok (.getfield 71, 3) := by decide +kernel
theorem dX9_act_67 : decode cX9_act 67 = .ok (.iadd, 1) := by decide +kernel
theorem dX9_act_68 : decode cX9_act 68 = .ok (.lload_n 1, 1) := by decide +kernel
theorem dX9_act_69 : decode cX9_act 69 = .ok (.invokevirtual 46, 3) := by decide +kernel
theorem dX9_act_72 : decode cX9_act 72 = .ok (.goto 99, 3) := by decide +kernel
theorem dX9_act_75 : decode cX9_act 75 = .ok (.aload_n 0, 1) := by decide +kernel
theorem dX9_act_76 : decode cX9_act 76 = .ok (.bipush 8, 2) := by decide +kernel
theorem dX9_act_78 : decode cX9_act 78 = .ok (.aload_n 0, 1) := by decide +kernel
theorem dX9_act_79 : decode cX9_act 79 = .ok (.getfield 71, 3) := by decide +kernel
theorem dX9_act_82 : decode cX9_act 82 = .ok (.iadd, 1) := by decide +kernel
theorem dX9_act_83 : decode cX9_act 83 = .ok (.lload_n 1, 1) := by decide +kernel
theorem dX9_act_84 : decode cX9_act 84 = .ok (.invokevirtual 46, 3) := by decide +kernel
theorem dX9_act_87 : decode cX9_act 87 = .ok (.lload_n 1, 1) := by decide +kernel
theorem dX9_act_88 : decode cX9_act 88 = .ok (.ldc2_w 142, 3) := by decide +kernel
theorem dX9_act_91 : decode cX9_act 91 = .ok (.lcmp, 1) := by decide +kernel
theorem dX9_act_92 : decode cX9_act 92 = .ok (.ifCond .ge 7, 3) := by decide +kernel
theorem dX9_act_95 : decode cX9_act 95 = .ok (.iconst 1, 1) := by decide +kernel
theorem dX9_act_96 : decode cX9_act 96 = .ok (.goto 4, 3) := by decide +kernel
theorem dX9_act_99 : decode cX9_act 99 = .ok (.iconst 0, 1) := by decide +kernel
theorem dX9_act_100 : decode cX9_act 100 = .ok (.istore_n 3, 1) := by decide +kernel
theorem dX9_act_101 : decode cX9_act 101 = .ok (.aload_n 0, 1) := by decide +kernel
theorem dX9_act_102 : decode cX9_act 102 = .ok (.getfield 71, 3) := by decide +kernel
theorem dX9_act_105 : decode cX9_act 105 = .ok (.ifCond .le 38, 3) := by decide +kernel
theorem dX9_act_108 : decode cX9_act 108 = .ok (.aload_n 0, 1) := by decide +kernel
theorem dX9_act_109 : decode cX9_act 109 = .ok (.getfield 71, 3) := by decide +kernel
theorem dX9_act_112 : decode cX9_act 112 = .ok (.bipush 6, 2) := by decide +kernel
theorem dX9_act_114 : decode cX9_act 114 = .ok (.if_icmp .ge 29, 3) := by decide +kernel
theorem dX9_act_117 : decode cX9_act 117 = .ok (.aload_n 0, 1) := by decide +kernel
theorem dX9_act_118 : decode cX9_act 118 = .ok (.aload_n 0, 1) := by decide +kernel
theorem dX9_act_119 : decode cX9_act 119 = .ok (.getfield 71, 3) := by decide +kernel
theorem dX9_act_122 : decode cX9_act 122 = .ok (.iload_n 3, 1) := by decide +kernel
theorem dX9_act_123 : decode cX9_act 123 = .ok (.ifCond .eq 13, 3) := by decide +kernel
theorem dX9_act_126 : decode cX9_act 126 = .ok (.aload_n 0, 1) := by decide +kernel
theorem dX9_act_127 : decode cX9_act 127 = .ok (.getfield 7, 3) := by decide +kernel
theorem dX9_act_130 : decode cX9_act 130 = .ok (.lload_n 1, 1) := by decide +kernel
theorem dX9_act_131 : decode cX9_act 131 = .ok (.l2i, 1) := by decide +kernel
theorem dX9_act_132 : decode cX9_act 132 = .ok (.laload, 1) := by decide +kernel
theorem dX9_act_133 : decode cX9_act 133 = .ok (.goto 4, 3) := by decide +kernel
theorem dX9_act_136 : decode cX9_act 136 = .ok (.lconst 0, 1) := by decide +kernel
theorem dX9_act_137 : decode cX9_act 137 = .ok (.invokevirtual 46, 3) := by decide +kernel
theorem dX9_act_140 : decode cX9_act 140 = .ok (.goto 31, 3) := by decide +kernel
theorem dX9_act_143 : decode cX9_act 143 = .ok (.aload_n 0, 1) := by decide +kernel
theorem dX9_act_144 : decode cX9_act 144 = .ok (.getfield 71, 3) := by decide +kernel
theorem dX9_act_147 : decode cX9_act 147 = .ok (.iconst 5, 1) := by decide +kernel
theorem dX9_act_148 : decode cX9_act 148 = .ok (.if_icmp .le 23, 3) := by decide +kernel
theorem dX9_act_151 : decode cX9_act 151 = .ok (.iload_n 3, 1) := by decide +kernel
theorem dX9_act_152 : decode cX9_act 152 = .ok (.ifCond .eq 19, 3) := by decide +kernel
theorem dX9_act_155 : decode cX9_act 155 = .ok (.aload_n 0, 1) := by decide +kernel
theorem dX9_act_156 : decode cX9_act 156 = .ok (.getfield 7, 3) := by decide +kernel
theorem dX9_act_159 : decode cX9_act 159 = .ok (.lload_n 1, 1) := by decide +kernel
theorem dX9_act_160 : decode cX9_act 160 = .ok (.l2i, 1) := by decide +kernel
theorem dX9_act_161 : decode cX9_act 161 = .ok (.aload_n 0, 1) := by decide +kernel
theorem dX9_act_162 : decode cX9_act 162 = .ok (.getfield 16, 3) := by decide +kernel
theorem dX9_act_165 : decode cX9_act 165 = .ok (.aload_n 0, 1) := by decide +kernel
theorem dX9_act_166 : decode cX9_act 166 = .ok (.getfield 71, 3) := by decide +kernel
theorem dX9_act_169 : decode cX9_act 169 = .ok (.laload, 1) := by decide +kernel
theorem dX9_act_170 : decode cX9_act 170 = .ok (.lastore, 1) := by decide +kernel
theorem dX9_act_171 : decode cX9_act 171 = .ok (.return_, 1) := by decide +kernel
theorem dX9_later_0 : decode cX9_later 0 = .ok (.lload_n 0, 1) := by decide +kernel
theorem dX9_later_1 : decode cX9_later 1 = .ok (.lload_n 2, 1) := by decide +kernel
theorem dX9_later_2 : decode cX9_later 2 = .ok (.lcmp, 1) := by decide +kernel
theorem dX9_later_3 : decode cX9_later 3 = .ok (.ifCond .le 7, 3) := by decide +kernel
theorem dX9_later_6 : decode cX9_later 6 = .ok (.lload_n 0, 1) := by decide +kernel
theorem dX9_later_7 : decode cX9_later 7 = .ok (.goto 4, 3) := by decide +kernel
theorem dX9_later_10 : decode cX9_later 10 = .ok (.lload_n 2, 1) := by decide +kernel
theorem dX9_later_11 : decode cX9_later 11 = .ok (.lreturn, 1) := by decide +kernel
set_option maxRecDepth 20000 in
theorem ggX9_freeFrom_X9_later_1 : ∀ w ∈ ([] : List Cond), w ∈ wsX9_freeFrom := fun _ h => nomatch h
theorem ggX9_freeFrom_X9_later_m : ∀ w ∈ wsX9_later, w ∈ wsX9_freeFrom := fun w h => (List.mem_cons.mp h).elim (fun e => by rw [e]; exact List.mem_of_getElem? (i := 5) rfl) (fun h => ggX9_freeFrom_X9_later_1 w h)
set_option maxRecDepth 20000 in
theorem ggX9_freeFrom_X9_later : GoodIn wsX9_freeFrom wsX9_later := goodIn_sub ggX9_freeFrom_X9_later_m (by decide +kernel)
theorem dX9_freeFrom_0 : decode cX9_freeFrom 0 = .ok (.lconst 0, 1) := by decide +kernel
theorem dX9_freeFrom_1 : decode cX9_freeFrom 1 = .ok (.lstore_n 2, 1) := by decide +kernel
theorem dX9_freeFrom_2 : decode cX9_freeFrom 2 = .ok (.iconst 0, 1) := by decide +kernel
theorem dX9_freeFrom_3 : decode cX9_freeFrom 3 = .ok (.istore 4, 2) := by decide +kernel
theorem dX9_freeFrom_5 : decode cX9_freeFrom 5 = .ok (.iload 4, 2) := by decide +kernel
theorem dX9_freeFrom_7 : decode cX9_freeFrom 7 = .ok (.bipush 24, 2) := by decide +kernel
theorem dX9_freeFrom_9 : decode cX9_freeFrom 9 = .ok (.if_icmp .ge 35, 3) := by decide +kernel
theorem dX9_freeFrom_12 : decode cX9_freeFrom 12 = .ok (.iload_n 1, 1) := by decide +kernel
theorem dX9_freeFrom_13 : decode cX9_freeFrom 13 = .ok (.iload 4, 2) := by decide +kernel
theorem dX9_freeFrom_15 : decode cX9_freeFrom 15 = .ok (.ishr, 1) := by decide +kernel
theorem dX9_freeFrom_16 : decode cX9_freeFrom 16 = .ok (.iconst 1, 1) := by decide +kernel
theorem dX9_freeFrom_17 : decode cX9_freeFrom 17 = .ok (.iand, 1) := by decide +kernel
theorem dX9_freeFrom_18 : decode cX9_freeFrom 18 = .ok (.iconst 1, 1) := by decide +kernel
theorem dX9_freeFrom_19 : decode cX9_freeFrom 19 = .ok (.if_icmp .ne 17, 3) := by decide +kernel
theorem dX9_freeFrom_22 : decode cX9_freeFrom 22 = .ok (.lload_n 2, 1) := by decide +kernel
theorem dX9_freeFrom_23 : decode cX9_freeFrom 23 = .ok (.aload_n 0, 1) := by decide +kernel
theorem dX9_freeFrom_24 : decode cX9_freeFrom 24 = .ok (.getfield 30, 3) := by decide +kernel
theorem dX9_freeFrom_27 : decode cX9_freeFrom 27 = .ok (.iload 4, 2) := by decide +kernel
theorem dX9_freeFrom_29 : decode cX9_freeFrom 29 = .ok (.laload, 1) := by decide +kernel
theorem dX9_freeFrom_30 : decode cX9_freeFrom 30 = .ok (.invokestatic 144, 3) := by decide +kernel
theorem dX9_freeFrom_33 : decode cX9_freeFrom 33 = .ok (.goto 4, 3) := by decide +kernel
theorem dX9_freeFrom_36 : decode cX9_freeFrom 36 = .ok (.lload_n 2, 1) := by decide +kernel
theorem dX9_freeFrom_37 : decode cX9_freeFrom 37 = .ok (.lstore_n 2, 1) := by decide +kernel
theorem dX9_freeFrom_38 : decode cX9_freeFrom 38 = .ok (.iinc 4 1, 3) := by decide +kernel
theorem dX9_freeFrom_41 : decode cX9_freeFrom 41 = .ok (.goto (-36), 3) := by decide +kernel
theorem dX9_freeFrom_44 : decode cX9_freeFrom 44 = .ok (.lload_n 2, 1) := by decide +kernel
theorem dX9_freeFrom_45 : decode cX9_freeFrom 45 = .ok (.lreturn, 1) := by decide +kernel
theorem dX9_unit_0 : decode cX9_unit 0 = .ok (.aload_n 0, 1) := by decide +kernel
theorem dX9_unit_1 : decode cX9_unit 1 = .ok (.getfield 68, 3) := by decide +kernel
theorem dX9_unit_4 : decode cX9_unit 4 = .ok (.bipush 16, 2) := by decide +kernel
theorem dX9_unit_6 : decode cX9_unit 6 = .ok (.if_icmp .ge 7, 3) := by decide +kernel
theorem dX9_unit_9 : decode cX9_unit 9 = .ok (.iconst 0, 1) := by decide +kernel
theorem dX9_unit_10 : decode cX9_unit 10 = .ok (.goto 52, 3) := by decide +kernel
theorem dX9_unit_13 : decode cX9_unit 13 = .ok (.aload_n 0, 1) := by decide +kernel
theorem dX9_unit_14 : decode cX9_unit 14 = .ok (.getfield 68, 3) := by decide +kernel
theorem dX9_unit_17 : decode cX9_unit 17 = .ok (.bipush 20, 2) := by decide +kernel
theorem dX9_unit_19 : decode cX9_unit 19 = .ok (.if_icmp .lt 12, 3) := by decide +kernel
theorem dX9_unit_22 : decode cX9_unit 22 = .ok (.aload_n 0, 1) := by decide +kernel
theorem dX9_unit_23 : decode cX9_unit 23 = .ok (.getfield 68, 3) := by decide +kernel
theorem dX9_unit_26 : decode cX9_unit 26 = .ok (.bipush 35, 2) := by decide +kernel
theorem dX9_unit_28 : decode cX9_unit 28 = .ok (.if_icmp .ne 7, 3) := by decide +kernel
theorem dX9_unit_31 : decode cX9_unit 31 = .ok (.iconst 1, 1) := by decide +kernel
theorem dX9_unit_32 : decode cX9_unit 32 = .ok (.goto 30, 3) := by decide +kernel
theorem dX9_unit_35 : decode cX9_unit 35 = .ok (.aload_n 0, 1) := by decide +kernel
theorem dX9_unit_36 : decode cX9_unit 36 = .ok (.getfield 68, 3) := by decide +kernel
theorem dX9_unit_39 : decode cX9_unit 39 = .ok (.bipush 32, 2) := by decide +kernel
theorem dX9_unit_41 : decode cX9_unit 41 = .ok (.if_icmp .ge 7, 3) := by decide +kernel
theorem dX9_unit_44 : decode cX9_unit 44 = .ok (.iconst 2, 1) := by decide +kernel
theorem dX9_unit_45 : decode cX9_unit 45 = .ok (.goto 17, 3) := by decide +kernel
theorem dX9_unit_48 : decode cX9_unit 48 = .ok (.aload_n 0, 1) := by decide +kernel
theorem dX9_unit_49 : decode cX9_unit 49 = .ok (.getfield 68, 3) := by decide +kernel
theorem dX9_unit_52 : decode cX9_unit 52 = .ok (.bipush 39, 2) := by decide +kernel
theorem dX9_unit_54 : decode cX9_unit 54 = .ok (.if_icmp .ne 7, 3) := by decide +kernel
theorem dX9_unit_57 : decode cX9_unit 57 = .ok (.iconst 3, 1) := by decide +kernel
theorem dX9_unit_58 : decode cX9_unit 58 = .ok (.goto 4, 3) := by decide +kernel
theorem dX9_unit_61 : decode cX9_unit 61 = .ok (.iconst 4, 1) := by decide +kernel
theorem dX9_unit_62 : decode cX9_unit 62 = .ok (.ireturn, 1) := by decide +kernel
set_option maxRecDepth 20000 in
theorem ggX9_board_X9_unit_1 : ∀ w ∈ ([.fieldLink RX9 68 "ScoreboardCoreModel" "op" "I"] : List Cond), w ∈ wsX9_board := List.forall_mem_cons.mpr ⟨List.mem_of_getElem? (i := 22) rfl, fun _ h => nomatch h⟩
set_option maxRecDepth 20000 in
theorem ggX9_board_X9_unit_2 : ∀ w ∈ wsX90, w ∈ wsX9_board := fun w h => List.mem_cons_of_mem _ (List.mem_append_right _ (h))
theorem ggX9_board_X9_unit_m : ∀ w ∈ wsX9_unit, w ∈ wsX9_board := fun w h => (List.mem_cons.mp h).elim (fun e => by rw [e]; exact List.mem_of_getElem? (i := 21) rfl) (fun h => (List.mem_append.mp h).elim (fun h => ggX9_board_X9_unit_1 w h) (fun h => ggX9_board_X9_unit_2 w h))
set_option maxRecDepth 20000 in
theorem ggX9_board_X9_unit : GoodIn wsX9_board wsX9_unit := goodIn_sub ggX9_board_X9_unit_m (by decide +kernel)
set_option maxRecDepth 20000 in
theorem ggX9_board_X9_freeFrom_1 : ∀ w ∈ ([.fieldLink RX9 30 "ScoreboardCoreModel" "free" "[J", .methodLink RX9 144 yX9_later, .static yX9_later, .initialized RX9, .code yX9_later cX9_later 4 (some .long)] : List Cond), w ∈ wsX9_board := List.forall_mem_cons.mpr ⟨List.mem_of_getElem? (i := 10) rfl, List.forall_mem_cons.mpr ⟨List.mem_of_getElem? (i := 27) rfl, List.forall_mem_cons.mpr ⟨List.mem_of_getElem? (i := 28) rfl, List.forall_mem_cons.mpr ⟨List.mem_of_getElem? (i := 20) rfl, List.forall_mem_cons.mpr ⟨List.mem_of_getElem? (i := 29) rfl, fun _ h => nomatch h⟩⟩⟩⟩⟩
set_option maxRecDepth 20000 in
theorem ggX9_board_X9_freeFrom_2 : ∀ w ∈ wsX90, w ∈ wsX9_board := fun w h => List.mem_cons_of_mem _ (List.mem_append_right _ (h))
theorem ggX9_board_X9_freeFrom_m : ∀ w ∈ wsX9_freeFrom, w ∈ wsX9_board := fun w h => (List.mem_cons.mp h).elim (fun e => by rw [e]; exact List.mem_of_getElem? (i := 26) rfl) (fun h => (List.mem_append.mp h).elim (fun h => ggX9_board_X9_freeFrom_1 w h) (fun h => ggX9_board_X9_freeFrom_2 w h))
set_option maxRecDepth 20000 in
theorem ggX9_board_X9_freeFrom : GoodIn wsX9_board wsX9_freeFrom := goodIn_sub ggX9_board_X9_freeFrom_m (by decide +kernel)
set_option maxRecDepth 20000 in
theorem ggX9_board_X9_later_1 : ∀ w ∈ ([] : List Cond), w ∈ wsX9_board := fun _ h => nomatch h
theorem ggX9_board_X9_later_m : ∀ w ∈ wsX9_later, w ∈ wsX9_board := fun w h => (List.mem_cons.mp h).elim (fun e => by rw [e]; exact List.mem_of_getElem? (i := 29) rfl) (fun h => ggX9_board_X9_later_1 w h)
set_option maxRecDepth 20000 in
theorem ggX9_board_X9_later : GoodIn wsX9_board wsX9_later := goodIn_sub ggX9_board_X9_later_m (by decide +kernel)
set_option maxRecDepth 20000 in
theorem ggX9_board_X9_isMemory_1 : ∀ w ∈ ([.fieldLink RX9 68 "ScoreboardCoreModel" "op" "I", .fieldLink RX9 71 "ScoreboardCoreModel" "i" "I"] : List Cond), w ∈ wsX9_board := List.forall_mem_cons.mpr ⟨List.mem_of_getElem? (i := 22) rfl, List.forall_mem_cons.mpr ⟨List.mem_of_getElem? (i := 12) rfl, fun _ h => nomatch h⟩⟩
set_option maxRecDepth 20000 in
theorem ggX9_board_X9_isMemory_2 : ∀ w ∈ wsX90, w ∈ wsX9_board := fun w h => List.mem_cons_of_mem _ (List.mem_append_right _ (h))
theorem ggX9_board_X9_isMemory_m : ∀ w ∈ wsX9_isMemory, w ∈ wsX9_board := fun w h => (List.mem_cons.mp h).elim (fun e => by rw [e]; exact List.mem_of_getElem? (i := 33) rfl) (fun h => (List.mem_append.mp h).elim (fun h => ggX9_board_X9_isMemory_1 w h) (fun h => ggX9_board_X9_isMemory_2 w h))
set_option maxRecDepth 20000 in
theorem ggX9_board_X9_isMemory : GoodIn wsX9_board wsX9_isMemory := goodIn_sub ggX9_board_X9_isMemory_m (by decide +kernel)
theorem dX9_board_0 : decode cX9_board 0 = .ok (.aload_n 0, 1) := by decide +kernel
theorem dX9_board_1 : decode cX9_board 1 = .ok (.invokevirtual 148, 3) := by decide +kernel
theorem dX9_board_4 : decode cX9_board 4 = .ok (.istore_n 1, 1) := by decide +kernel
theorem dX9_board_5 : decode cX9_board 5 = .ok (.iload_n 1, 1) := by decide +kernel
theorem dX9_board_6 : decode cX9_board 6 = .ok (.iconst 4, 1) := by decide +kernel
theorem dX9_board_7 : decode cX9_board 7 = .ok (.if_icmp .ne 28, 3) := by decide +kernel
theorem dX9_board_10 : decode cX9_board 10 = .ok (.aload_n 0, 1) := by decide +kernel
theorem dX9_board_11 : decode cX9_board 11 = .ok (.getfield 36, 3) := by decide +kernel
theorem dX9_board_14 : decode cX9_board 14 = .ok (.iconst 5, 1) := by decide +kernel
theorem dX9_board_15 : decode cX9_board 15 = .ok (.laload, 1) := by decide +kernel
theorem dX9_board_16 : decode cX9_board 16 = .ok (.aload_n 0, 1) := by decide +kernel
theorem dX9_board_17 : decode cX9_board 17 = .ok (.getfield 36, 3) := by decide +kernel
theorem dX9_board_20 : decode cX9_board 20 = .ok (.iconst 4, 1) := by decide +kernel
theorem dX9_board_21 : decode cX9_board 21 = .ok (.laload, 1) := by decide +kernel
theorem dX9_board_22 : decode cX9_board 22 = .ok (.lcmp, 1) := by decide +kernel
theorem dX9_board_23 : decode cX9_board 23 = .ok (.ifCond .ge 12, 3) := by decide +kernel
theorem dX9_board_26 : decode cX9_board 26 = .ok (.aload_n 0, 1) := by decide +kernel
theorem dX9_board_27 : decode cX9_board 27 = .ok (.getfield 36, 3) := by decide +kernel
theorem dX9_board_30 : decode cX9_board 30 = .ok (.iconst 5, 1) := by decide +kernel
theorem dX9_board_31 : decode cX9_board 31 = .ok (.laload, 1) := by decide +kernel
theorem dX9_board_32 : decode cX9_board 32 = .ok (.goto 9, 3) := by decide +kernel
theorem dX9_board_35 : decode cX9_board 35 = .ok (.aload_n 0, 1) := by decide +kernel
theorem dX9_board_36 : decode cX9_board 36 = .ok (.getfield 36, 3) := by decide +kernel
theorem dX9_board_39 : decode cX9_board 39 = .ok (.iload_n 1, 1) := by decide +kernel
theorem dX9_board_40 : decode cX9_board 40 = .ok (.laload, 1) := by decide +kernel
theorem dX9_board_41 : decode cX9_board 41 = .ok (.lstore_n 2, 1) := by decide +kernel
theorem dX9_board_42 : decode cX9_board 42 = .ok (.aload_n 0, 1) := by decide +kernel
theorem dX9_board_43 : decode cX9_board 43 = .ok (.getfield 152, 3) := by decide +kernel
theorem dX9_board_46 : decode cX9_board 46 = .ok (.lload_n 2, 1) := by decide +kernel
theorem dX9_board_47 : decode cX9_board 47 = .ok (.aload_n 0, 1) := by decide +kernel
theorem dX9_board_48 : decode cX9_board 48 = .ok (.aload_n 0, 1) := by decide +kernel
theorem dX9_board_49 : decode cX9_board 49 = .ok (.getfield 99, 3) := by decide +kernel
theorem dX9_board_52 : decode cX9_board 52 = .ok (.invokevirtual 156, 3) := by decide +kernel
theorem dX9_board_55 : decode cX9_board 55 = .ok (.invokestatic 144, 3) := by decide +kernel
theorem dX9_board_58 : decode cX9_board 58 = .ok (.invokestatic 144, 3) := by decide +kernel
theorem dX9_board_61 : decode cX9_board 61 = .ok (.lstore 4, 2) := by decide +kernel
theorem dX9_board_63 : decode cX9_board 63 = .ok (.lload_n 2, 1) := by decide +kernel
theorem dX9_board_64 : decode cX9_board 64 = .ok (.aload_n 0, 1) := by decide +kernel
theorem dX9_board_65 : decode cX9_board 65 = .ok (.getfield 152, 3) := by decide +kernel
theorem dX9_board_68 : decode cX9_board 68 = .ok (.lcmp, 1) := by decide +kernel
theorem dX9_board_69 : decode cX9_board 69 = .ok (.ifCond .le 12, 3) := by decide +kernel
theorem dX9_board_72 : decode cX9_board 72 = .ok (.lload_n 2, 1) := by decide +kernel
theorem dX9_board_73 : decode cX9_board 73 = .ok (.aload_n 0, 1) := by decide +kernel
theorem dX9_board_74 : decode cX9_board 74 = .ok (.getfield 152, 3) := by decide +kernel
theorem dX9_board_77 : decode cX9_board 77 = .ok (.lsub, 1) := by decide +kernel
theorem dX9_board_78 : decode cX9_board 78 = .ok (.goto 4, 3) := by decide +kernel
theorem dX9_board_81 : decode cX9_board 81 = .ok (.lconst 0, 1) := by decide +kernel
theorem dX9_board_82 : decode cX9_board 82 = .ok (.lstore 6, 2) := by decide +kernel
theorem dX9_board_84 : decode cX9_board 84 = .ok (.aload_n 0, 1) := by decide +kernel
theorem dX9_board_85 : decode cX9_board 85 = .ok (.getfield 27, 3) := by decide +kernel
theorem dX9_board_88 : decode cX9_board 88 = .ok (.iconst 0, 1) := by decide +kernel
theorem dX9_board_89 : decode cX9_board 89 = .ok (.aload_n 0, 1) := by decide +kernel
theorem dX9_board_90 : decode cX9_board 90 = .ok (.getfield 27, 3) := by decide +kernel
theorem dX9_board_93 : decode cX9_board 93 = .ok (.iconst 0, 1) := by decide +kernel
theorem dX9_board_94 : decode cX9_board 94 = .ok (.laload, 1) := by decide +kernel
theorem dX9_board_95 : decode cX9_board 95 = .ok (.lload 6, 2) := by decide +kernel
theorem dX9_board_97 : decode cX9_board 97 = .ok (.ladd, 1) := by decide +kernel
theorem dX9_board_98 : decode cX9_board 98 = .ok (.lastore, 1) := by decide +kernel
theorem dX9_board_99 : decode cX9_board 99 = .ok (.aload_n 0, 1) := by decide +kernel
theorem dX9_board_100 : decode cX9_board 100 = .ok (.getfield 27, 3) := by decide +kernel
theorem dX9_board_103 : decode cX9_board 103 = .ok (.iconst 1, 1) := by decide +kernel
theorem dX9_board_104 : decode cX9_board 104 = .ok (.aload_n 0, 1) := by decide +kernel
theorem dX9_board_105 : decode cX9_board 105 = .ok (.getfield 27, 3) := by decide +kernel
theorem dX9_board_108 : decode cX9_board 108 = .ok (.iconst 1, 1) := by decide +kernel
theorem dX9_board_109 : decode cX9_board 109 = .ok (.laload, 1) := by decide +kernel
theorem dX9_board_110 : decode cX9_board 110 = .ok (.lload 4, 2) := by decide +kernel
theorem dX9_board_112 : decode cX9_board 112 = .ok (.ladd, 1) := by decide +kernel
theorem dX9_board_113 : decode cX9_board 113 = .ok (.aload_n 0, 1) := by decide +kernel
theorem dX9_board_114 : decode cX9_board 114 = .ok (.getfield 152, 3) := by decide +kernel
theorem dX9_board_117 : decode cX9_board 117 = .ok (.lsub, 1) := by decide +kernel
theorem dX9_board_118 : decode cX9_board 118 = .ok (.lload 6, 2) := by decide +kernel
theorem dX9_board_120 : decode cX9_board 120 = .ok (.lsub, 1) := by decide +kernel
theorem dX9_board_121 : decode cX9_board 121 = .ok (.lastore, 1) := by decide +kernel
theorem dX9_board_122 : decode cX9_board 122 = .ok (.iload_n 1, 1) := by decide +kernel
theorem dX9_board_123 : decode cX9_board 123 = .ok (.iconst 4, 1) := by decide +kernel
theorem dX9_board_124 : decode cX9_board 124 = .ok (.if_icmp .ne 19, 3) := by decide +kernel
theorem dX9_board_127 : decode cX9_board 127 = .ok (.aload_n 0, 1) := by decide +kernel
theorem dX9_board_128 : decode cX9_board 128 = .ok (.getfield 36, 3) := by decide +kernel
theorem dX9_board_131 : decode cX9_board 131 = .ok (.iconst 4, 1) := by decide +kernel
theorem dX9_board_132 : decode cX9_board 132 = .ok (.laload, 1) := by decide +kernel
theorem dX9_board_133 : decode cX9_board 133 = .ok (.lload 4, 2) := by decide +kernel
theorem dX9_board_135 : decode cX9_board 135 = .ok (.lcmp, 1) := by decide +kernel
theorem dX9_board_136 : decode cX9_board 136 = .ok (.ifCond .le 7, 3) := by decide +kernel
theorem dX9_board_139 : decode cX9_board 139 = .ok (.iconst 5, 1) := by decide +kernel
theorem dX9_board_140 : decode cX9_board 140 = .ok (.goto 4, 3) := by decide +kernel
theorem dX9_board_143 : decode cX9_board 143 = .ok (.iload_n 1, 1) := by decide +kernel
theorem dX9_board_144 : decode cX9_board 144 = .ok (.istore_n 1, 1) := by decide +kernel
theorem dX9_board_145 : decode cX9_board 145 = .ok (.lload 4, 2) := by decide +kernel
theorem dX9_board_147 : decode cX9_board 147 = .ok (.lconst 1, 1) := by decide +kernel
theorem dX9_board_148 : decode cX9_board 148 = .ok (.ladd, 1) := by decide +kernel
theorem dX9_board_149 : decode cX9_board 149 = .ok (.aload_n 0, 1) := by decide +kernel
theorem dX9_board_150 : decode cX9_board 150 = .ok (.aload_n 0, 1) := by decide +kernel
theorem dX9_board_151 : decode cX9_board 151 = .ok (.getfield 96, 3) := by decide +kernel
theorem dX9_board_154 : decode cX9_board 154 = .ok (.invokevirtual 156, 3) := by decide +kernel
theorem dX9_board_157 : decode cX9_board 157 = .ok (.invokestatic 144, 3) := by decide +kernel
theorem dX9_board_160 : decode cX9_board 160 = .ok (.lstore 8, 2) := by decide +kernel
theorem dX9_board_162 : decode cX9_board 162 = .ok (.aload_n 0, 1) := by decide +kernel
theorem dX9_board_163 : decode cX9_board 163 = .ok (.getfield 27, 3) := by decide +kernel
theorem dX9_board_166 : decode cX9_board 166 = .ok (.iconst 3, 1) := by decide +kernel
theorem dX9_board_167 : decode cX9_board 167 = .ok (.aload_n 0, 1) := by decide +kernel
theorem dX9_board_168 : decode cX9_board 168 = .ok (.getfield 27, 3) := by decide +kernel
theorem dX9_board_171 : decode cX9_board 171 = .ok (.iconst 3, 1) := by decide +kernel
theorem dX9_board_172 : decode cX9_board 172 = .ok (.laload, 1) := by decide +kernel
theorem dX9_board_173 : decode cX9_board 173 = .ok (.lload 8, 2) := by decide +kernel
theorem dX9_board_175 : decode cX9_board 175 = .ok (.ladd, 1) := by decide +kernel
theorem dX9_board_176 : decode cX9_board 176 = .ok (.lload 4, 2) := by decide +kernel
theorem dX9_board_178 : decode cX9_board 178 = .ok (.lsub, 1) := by decide +kernel
theorem dX9_board_179 : decode cX9_board 179 = .ok (.lconst 1, 1) := by decide +kernel
theorem dX9_board_180 : decode cX9_board 180 = .ok (.lsub, 1) := by decide +kernel
theorem dX9_board_181 : decode cX9_board 181 = .ok (.lastore, 1) := by decide +kernel
theorem dX9_board_182 : decode cX9_board 182 = .ok (.lload 8, 2) := by decide +kernel
theorem dX9_board_184 : decode cX9_board 184 = .ok (.iload_n 1, 1) := by decide +kernel
theorem dX9_board_185 : decode cX9_board 185 = .ok (.iconst 3, 1) := by decide +kernel
theorem dX9_board_186 : decode cX9_board 186 = .ok (.if_icmp .ne 9, 3) := by decide +kernel
theorem dX9_board_189 : decode cX9_board 189 = .ok (.ldc2_w 160, 3) := by decide +kernel
theorem dX9_board_192 : decode cX9_board 192 = .ok (.goto 6, 3) := by decide +kernel
theorem dX9_board_195 : decode cX9_board 195 = .ok (.ldc2_w 162, 3) := by decide +kernel
theorem dX9_board_198 : decode cX9_board 198 = .ok (.ladd, 1) := by decide +kernel
theorem dX9_board_199 : decode cX9_board 199 = .ok (.lstore 10, 2) := by decide +kernel
theorem dX9_board_201 : decode cX9_board 201 = .ok (.lload 10, 2) := by decide +kernel
theorem dX9_board_203 : decode cX9_board 203 = .ok (.lstore 12, 2) := by decide +kernel
theorem dX9_board_205 : decode cX9_board 205 = .ok (.iconst 0, 1) := by decide +kernel
theorem dX9_board_206 : decode cX9_board 206 = .ok (.istore 14, 2) := by decide +kernel
theorem dX9_board_208 : decode cX9_board 208 = .ok (.iload 14, 2) := by decide +kernel
theorem dX9_board_210 : decode cX9_board 210 = .ok (.bipush 24, 2) := by decide +kernel
theorem dX9_board_212 : decode cX9_board 212 = .ok (.if_icmp .ge 43, 3) := by decide +kernel
theorem dX9_board_215 : decode cX9_board 215 = .ok (.aload_n 0, 1) := by decide +kernel
theorem dX9_board_216 : decode cX9_board 216 = .ok (.getfield 99, 3) := by decide +kernel
theorem dX9_board_219 : decode cX9_board 219 = .ok (.iload 14, 2) := by decide +kernel
theorem dX9_board_221 : decode cX9_board 221 = .ok (.ishr, 1) := by decide +kernel
theorem dX9_board_222 : decode cX9_board 222 = .ok (.iconst 1, 1) := by decide +kernel
theorem dX9_board_223 : decode cX9_board 223 = .ok (.iand, 1) := by decide +kernel
theorem dX9_board_224 : decode cX9_board 224 = .ok (.iconst 1, 1) := by decide +kernel
theorem dX9_board_225 : decode cX9_board 225 = .ok (.if_icmp .ne 20, 3) := by decide +kernel
theorem dX9_board_228 : decode cX9_board 228 = .ok (.lload 12, 2) := by decide +kernel
theorem dX9_board_230 : decode cX9_board 230 = .ok (.aload_n 0, 1) := by decide +kernel
theorem dX9_board_231 : decode cX9_board 231 = .ok (.getfield 33, 3) := by decide +kernel
theorem dX9_board_234 : decode cX9_board 234 = .ok (.iload 14, 2) := by decide +kernel
theorem dX9_board_236 : decode cX9_board 236 = .ok (.laload, 1) := by decide +kernel
theorem dX9_board_237 : decode cX9_board 237 = .ok (.lconst 1, 1) := by decide +kernel
theorem dX9_board_238 : decode cX9_board 238 = .ok (.ladd, 1) := by decide +kernel
theorem dX9_board_239 : decode cX9_board 239 = .ok (.invokestatic 144, 3) := by decide +kernel
theorem dX9_board_242 : decode cX9_board 242 = .ok (.goto 5, 3) := by decide +kernel
theorem dX9_board_245 : decode cX9_board 245 = .ok (.lload 12, 2) := by decide +kernel
theorem dX9_board_247 : decode cX9_board 247 = .ok (.lstore 12, 2) := by decide +kernel
theorem dX9_board_249 : decode cX9_board 249 = .ok (.iinc 14 1, 3) := by decide +kernel
theorem dX9_board_252 : decode cX9_board 252 = .ok (.goto (-44), 3) := by decide +kernel
theorem dX9_board_255 : decode cX9_board 255 = .ok (.aload_n 0, 1) := by decide +kernel
theorem dX9_board_256 : decode cX9_board 256 = .ok (.invokevirtual 109, 3) := by decide +kernel
theorem dX9_board_259 : decode cX9_board 259 = .ok (.ifCond .eq 17, 3) := by decide +kernel
theorem dX9_board_262 : decode cX9_board 262 = .ok (.lload 12, 2) := by decide +kernel
theorem dX9_board_264 : decode cX9_board 264 = .ok (.aload_n 0, 1) := by decide +kernel
theorem dX9_board_265 : decode cX9_board 265 = .ok (.getfield 164, 3) := by decide +kernel
theorem dX9_board_268 : decode cX9_board 268 = .ok (.lconst 1, 1) := by decide +kernel
theorem dX9_board_269 : decode cX9_board 269 = .ok (.ladd, 1) := by decide +kernel
theorem dX9_board_270 : decode cX9_board 270 = .ok (.invokestatic 144, 3) := by decide +kernel
theorem dX9_board_273 : decode cX9_board 273 = .ok (.goto 5, 3) := by decide +kernel
theorem dX9_board_276 : decode cX9_board 276 = .ok (.lload 12, 2) := by decide +kernel
theorem dX9_board_278 : decode cX9_board 278 = .ok (.lstore 12, 2) := by decide +kernel
theorem dX9_board_280 : decode cX9_board 280 = .ok (.aload_n 0, 1) := by decide +kernel
theorem dX9_board_281 : decode cX9_board 281 = .ok (.getfield 27, 3) := by decide +kernel
theorem dX9_board_284 : decode cX9_board 284 = .ok (.iconst 4, 1) := by decide +kernel
theorem dX9_board_285 : decode cX9_board 285 = .ok (.aload_n 0, 1) := by decide +kernel
theorem dX9_board_286 : decode cX9_board 286 = .ok (.getfield 27, 3) := by decide +kernel
theorem dX9_board_289 : decode cX9_board 289 = .ok (.iconst 4, 1) := by decide +kernel
theorem dX9_board_290 : decode cX9_board 290 = .ok (.laload, 1) := by decide +kernel
theorem dX9_board_291 : decode cX9_board 291 = .ok (.lload 12, 2) := by decide +kernel
theorem dX9_board_293 : decode cX9_board 293 = .ok (.ladd, 1) := by decide +kernel
theorem dX9_board_294 : decode cX9_board 294 = .ok (.lload 10, 2) := by decide +kernel
theorem dX9_board_296 : decode cX9_board 296 = .ok (.lsub, 1) := by decide +kernel
theorem dX9_board_297 : decode cX9_board 297 = .ok (.lastore, 1) := by decide +kernel
theorem dX9_board_298 : decode cX9_board 298 = .ok (.iconst 0, 1) := by decide +kernel
theorem dX9_board_299 : decode cX9_board 299 = .ok (.istore 14, 2) := by decide +kernel
theorem dX9_board_301 : decode cX9_board 301 = .ok (.iload 14, 2) := by decide +kernel
theorem dX9_board_303 : decode cX9_board 303 = .ok (.bipush 24, 2) := by decide +kernel
theorem dX9_board_305 : decode cX9_board 305 = .ok (.if_icmp .ge 85, 3) := by decide +kernel
theorem dX9_board_308 : decode cX9_board 308 = .ok (.aload_n 0, 1) := by decide +kernel
theorem dX9_board_309 : decode cX9_board 309 = .ok (.getfield 33, 3) := by decide +kernel
theorem dX9_board_312 : decode cX9_board 312 = .ok (.iload 14, 2) := by decide +kernel
theorem dX9_board_314 : decode cX9_board 314 = .ok (.aload_n 0, 1) := by decide +kernel
theorem dX9_board_315 : decode cX9_board 315 = .ok (.getfield 96, 3) := by decide +kernel
theorem dX9_board_318 : decode cX9_board 318 = .ok (.iload 14, 2) := by decide +kernel
theorem dX9_board_320 : decode cX9_board 320 = .ok (.ishr, 1) := by decide +kernel
theorem dX9_board_321 : decode cX9_board 321 = .ok (.iconst 1, 1) := by decide +kernel
theorem dX9_board_322 : decode cX9_board 322 = .ok (.iand, 1) := by decide +kernel
theorem dX9_board_323 : decode cX9_board 323 = .ok (.iconst 1, 1) := by decide +kernel
theorem dX9_board_324 : decode cX9_board 324 = .ok (.if_icmp .ne 18, 3) := by decide +kernel
theorem dX9_board_327 : decode cX9_board 327 = .ok (.aload_n 0, 1) := by decide +kernel
theorem dX9_board_328 : decode cX9_board 328 = .ok (.getfield 33, 3) := by decide +kernel
theorem dX9_board_331 : decode cX9_board 331 = .ok (.iload 14, 2) := by decide +kernel
theorem dX9_board_333 : decode cX9_board 333 = .ok (.laload, 1) := by decide +kernel
theorem dX9_board_334 : decode cX9_board 334 = .ok (.lload 8, 2) := by decide +kernel
theorem dX9_board_336 : decode cX9_board 336 = .ok (.invokestatic 144, 3) := by decide +kernel
theorem dX9_board_339 : decode cX9_board 339 = .ok (.goto 10, 3) := by decide +kernel
theorem dX9_board_342 : decode cX9_board 342 = .ok (.aload_n 0, 1) := by decide +kernel
theorem dX9_board_343 : decode cX9_board 343 = .ok (.getfield 33, 3) := by decide +kernel
theorem dX9_board_346 : decode cX9_board 346 = .ok (.iload 14, 2) := by decide +kernel
theorem dX9_board_348 : decode cX9_board 348 = .ok (.laload, 1) := by decide +kernel
theorem dX9_board_349 : decode cX9_board 349 = .ok (.lastore, 1) := by decide +kernel
theorem dX9_board_350 : decode cX9_board 350 = .ok (.aload_n 0, 1) := by decide +kernel
theorem dX9_board_351 : decode cX9_board 351 = .ok (.getfield 30, 3) := by decide +kernel
theorem dX9_board_354 : decode cX9_board 354 = .ok (.iload 14, 2) := by decide +kernel
theorem dX9_board_356 : decode cX9_board 356 = .ok (.aload_n 0, 1) := by decide +kernel
theorem dX9_board_357 : decode cX9_board 357 = .ok (.getfield 99, 3) := by decide +kernel
theorem dX9_board_360 : decode cX9_board 360 = .ok (.iload 14, 2) := by decide +kernel
theorem dX9_board_362 : decode cX9_board 362 = .ok (.ishr, 1) := by decide +kernel
theorem dX9_board_363 : decode cX9_board 363 = .ok (.iconst 1, 1) := by decide +kernel
theorem dX9_board_364 : decode cX9_board 364 = .ok (.iand, 1) := by decide +kernel
theorem dX9_board_365 : decode cX9_board 365 = .ok (.iconst 1, 1) := by decide +kernel
theorem dX9_board_366 : decode cX9_board 366 = .ok (.if_icmp .ne 10, 3) := by decide +kernel
theorem dX9_board_369 : decode cX9_board 369 = .ok (.lload 12, 2) := by decide +kernel
theorem dX9_board_371 : decode cX9_board 371 = .ok (.lconst 1, 1) := by decide +kernel
theorem dX9_board_372 : decode cX9_board 372 = .ok (.ladd, 1) := by decide +kernel
theorem dX9_board_373 : decode cX9_board 373 = .ok (.goto 10, 3) := by decide +kernel
theorem dX9_board_376 : decode cX9_board 376 = .ok (.aload_n 0, 1) := by decide +kernel
theorem dX9_board_377 : decode cX9_board 377 = .ok (.getfield 30, 3) := by decide +kernel
theorem dX9_board_380 : decode cX9_board 380 = .ok (.iload 14, 2) := by decide +kernel
theorem dX9_board_382 : decode cX9_board 382 = .ok (.laload, 1) := by decide +kernel
theorem dX9_board_383 : decode cX9_board 383 = .ok (.lastore, 1) := by decide +kernel
theorem dX9_board_384 : decode cX9_board 384 = .ok (.iinc 14 1, 3) := by decide +kernel
theorem dX9_board_387 : decode cX9_board 387 = .ok (.goto (-86), 3) := by decide +kernel
theorem dX9_board_390 : decode cX9_board 390 = .ok (.aload_n 0, 1) := by decide +kernel
theorem dX9_board_391 : decode cX9_board 391 = .ok (.aload_n 0, 1) := by decide +kernel
theorem dX9_board_392 : decode cX9_board 392 = .ok (.getfield 167, 3) := by decide +kernel
theorem dX9_board_395 : decode cX9_board 395 = .ok (.lload 12, 2) := by decide +kernel
theorem dX9_board_397 : decode cX9_board 397 = .ok (.invokestatic 144, 3) := by decide +kernel
theorem dX9_board_400 : decode cX9_board 400 = .ok (.putfield 167, 3) := by decide +kernel
theorem dX9_board_403 : decode cX9_board 403 = .ok (.aload_n 0, 1) := by decide +kernel
theorem dX9_board_404 : decode cX9_board 404 = .ok (.invokevirtual 109, 3) := by decide +kernel
theorem dX9_board_407 : decode cX9_board 407 = .ok (.ifCond .eq 50, 3) := by decide +kernel
theorem dX9_board_410 : decode cX9_board 410 = .ok (.aload_n 0, 1) := by decide +kernel
theorem dX9_board_411 : decode cX9_board 411 = .ok (.lload 12, 2) := by decide +kernel
theorem dX9_board_413 : decode cX9_board 413 = .ok (.putfield 164, 3) := by decide +kernel
theorem dX9_board_416 : decode cX9_board 416 = .ok (.aload_n 0, 1) := by decide +kernel
theorem dX9_board_417 : decode cX9_board 417 = .ok (.getfield 71, 3) := by decide +kernel
theorem dX9_board_420 : decode cX9_board 420 = .ok (.bipush 6, 2) := by decide +kernel
theorem dX9_board_422 : decode cX9_board 422 = .ok (.if_icmp .ge 35, 3) := by decide +kernel
theorem dX9_board_425 : decode cX9_board 425 = .ok (.aload_n 0, 1) := by decide +kernel
theorem dX9_board_426 : decode cX9_board 426 = .ok (.getfield 30, 3) := by decide +kernel
theorem dX9_board_429 : decode cX9_board 429 = .ok (.aload_n 0, 1) := by decide +kernel
theorem dX9_board_430 : decode cX9_board 430 = .ok (.getfield 71, 3) := by decide +kernel
theorem dX9_board_433 : decode cX9_board 433 = .ok (.lload 12, 2) := by decide +kernel
theorem dX9_board_435 : decode cX9_board 435 = .ok (.ldc2_w 170, 3) := by decide +kernel
theorem dX9_board_438 : decode cX9_board 438 = .ok (.ladd, 1) := by decide +kernel
theorem dX9_board_439 : decode cX9_board 439 = .ok (.lastore, 1) := by decide +kernel
theorem dX9_board_440 : decode cX9_board 440 = .ok (.aload_n 0, 1) := by decide +kernel
theorem dX9_board_441 : decode cX9_board 441 = .ok (.aload_n 0, 1) := by decide +kernel
theorem dX9_board_442 : decode cX9_board 442 = .ok (.getfield 167, 3) := by decide +kernel
theorem dX9_board_445 : decode cX9_board 445 = .ok (.lload 12, 2) := by decide +kernel
theorem dX9_board_447 : decode cX9_board 447 = .ok (.ldc2_w 172, 3) := by decide +kernel
theorem dX9_board_450 : decode cX9_board 450 = .ok (.ladd, 1) := by decide +kernel
theorem dX9_board_451 : decode cX9_board 451 = .ok (.invokestatic 144, 3) := by decide +kernel
theorem dX9_board_454 : decode cX9_board 454 = .ok (.putfield 167, 3) := by decide +kernel
theorem dX9_board_457 : decode cX9_board 457 = .ok (.aload_n 0, 1) := by decide +kernel
theorem dX9_board_458 : decode cX9_board 458 = .ok (.getfield 36, 3) := by decide +kernel
theorem dX9_board_461 : decode cX9_board 461 = .ok (.iload_n 1, 1) := by decide +kernel
theorem dX9_board_462 : decode cX9_board 462 = .ok (.lload 12, 2) := by decide +kernel
theorem dX9_board_464 : decode cX9_board 464 = .ok (.lconst 1, 1) := by decide +kernel
theorem dX9_board_465 : decode cX9_board 465 = .ok (.ladd, 1) := by decide +kernel
theorem dX9_board_466 : decode cX9_board 466 = .ok (.lastore, 1) := by decide +kernel
theorem dX9_board_467 : decode cX9_board 467 = .ok (.aload_n 0, 1) := by decide +kernel
theorem dX9_board_468 : decode cX9_board 468 = .ok (.getfield 23, 3) := by decide +kernel
theorem dX9_board_471 : decode cX9_board 471 = .ok (.iload_n 1, 1) := by decide +kernel
theorem dX9_board_472 : decode cX9_board 472 = .ok (.dup2, 1) := by decide +kernel
theorem dX9_board_473 : decode cX9_board 473 = .ok (.iaload, 1) := by decide +kernel
theorem dX9_board_474 : decode cX9_board 474 = .ok (.iconst 1, 1) := by decide +kernel
theorem dX9_board_475 : decode cX9_board 475 = .ok (.iadd, 1) := by decide +kernel
theorem dX9_board_476 : decode cX9_board 476 = .ok (.iastore, 1) := by decide +kernel
theorem dX9_board_477 : decode cX9_board 477 = .ok (.aload_n 0, 1) := by decide +kernel
theorem dX9_board_478 : decode cX9_board 478 = .ok (.lload 4, 2) := by decide +kernel
theorem dX9_board_480 : decode cX9_board 480 = .ok (.aload_n 0, 1) := by decide +kernel
theorem dX9_board_481 : decode cX9_board 481 = .ok (.getfield 74, 3) := by decide +kernel
theorem dX9_board_484 : decode cX9_board 484 = .ok (.i2l, 1) := by decide +kernel
theorem dX9_board_485 : decode cX9_board 485 = .ok (.ladd, 1) := by decide +kernel
theorem dX9_board_486 : decode cX9_board 486 = .ok (.putfield 152, 3) := by decide +kernel
theorem dX9_board_489 : decode cX9_board 489 = .ok (.return_, 1) := by decide +kernel
set_option maxRecDepth 20000 in
theorem ggX9_holds_X9_signed_1 : ∀ w ∈ ([.constantLong RX9 60 (2)] : List Cond), w ∈ wsX9_holds := List.forall_mem_cons.mpr ⟨List.mem_of_getElem? (i := 12) rfl, fun _ h => nomatch h⟩
theorem ggX9_holds_X9_signed_m : ∀ w ∈ wsX9_signed, w ∈ wsX9_holds := fun w h => (List.mem_cons.mp h).elim (fun e => by rw [e]; exact List.mem_of_getElem? (i := 11) rfl) (fun h => ggX9_holds_X9_signed_1 w h)
set_option maxRecDepth 20000 in
theorem ggX9_holds_X9_signed : GoodIn wsX9_holds wsX9_signed := goodIn_sub ggX9_holds_X9_signed_m (by decide +kernel)
theorem dX9_holds_0 : decode cX9_holds 0 = .ok (.aload_n 0, 1) := by decide +kernel
theorem dX9_holds_1 : decode cX9_holds 1 = .ok (.getfield 68, 3) := by decide +kernel
theorem dX9_holds_4 : decode cX9_holds 4 = .ok (.iconst 3, 1) := by decide +kernel
theorem dX9_holds_5 : decode cX9_holds 5 = .ok (.if_icmp .ge 5, 3) := by decide +kernel
theorem dX9_holds_8 : decode cX9_holds 8 = .ok (.iconst 1, 1) := by decide +kernel
theorem dX9_holds_9 : decode cX9_holds 9 = .ok (.ireturn, 1) := by decide +kernel
theorem dX9_holds_10 : decode cX9_holds 10 = .ok (.aload_n 0, 1) := by decide +kernel
theorem dX9_holds_11 : decode cX9_holds 11 = .ok (.getfield 68, 3) := by decide +kernel
theorem dX9_holds_14 : decode cX9_holds 14 = .ok (.iconst 3, 1) := by decide +kernel
theorem dX9_holds_15 : decode cX9_holds 15 = .ok (.if_icmp .ne 103, 3) := by decide +kernel
theorem dX9_holds_18 : decode cX9_holds 18 = .ok (.aload_n 0, 1) := by decide +kernel
theorem dX9_holds_19 : decode cX9_holds 19 = .ok (.getfield 16, 3) := by decide +kernel
theorem dX9_holds_22 : decode cX9_holds 22 = .ok (.aload_n 0, 1) := by decide +kernel
theorem dX9_holds_23 : decode cX9_holds 23 = .ok (.getfield 83, 3) := by decide +kernel
theorem dX9_holds_26 : decode cX9_holds 26 = .ok (.laload, 1) := by decide +kernel
theorem dX9_holds_27 : decode cX9_holds 27 = .ok (.lstore_n 1, 1) := by decide +kernel
theorem dX9_holds_28 : decode cX9_holds 28 = .ok (.lload_n 1, 1) := by decide +kernel
theorem dX9_holds_29 : decode cX9_holds 29 = .ok (.lconst 0, 1) := by decide +kernel
theorem dX9_holds_30 : decode cX9_holds 30 = .ok (.lcmp, 1) := by decide +kernel
theorem dX9_holds_31 : decode cX9_holds 31 = .ok (.ifCond .eq 11, 3) := by decide +kernel
theorem dX9_holds_34 : decode cX9_holds 34 = .ok (.lload_n 1, 1) := by decide +kernel
theorem dX9_holds_35 : decode cX9_holds 35 = .ok (.ldc2_w 42, 3) := by decide +kernel
theorem dX9_holds_38 : decode cX9_holds 38 = .ok (.lcmp, 1) := by decide +kernel
theorem dX9_holds_39 : decode cX9_holds 39 = .ok (.ifCond .ne 7, 3) := by decide +kernel
theorem dX9_holds_42 : decode cX9_holds 42 = .ok (.iconst 1, 1) := by decide +kernel
theorem dX9_holds_43 : decode cX9_holds 43 = .ok (.goto 4, 3) := by decide +kernel
theorem dX9_holds_46 : decode cX9_holds 46 = .ok (.iconst 0, 1) := by decide +kernel
theorem dX9_holds_47 : decode cX9_holds 47 = .ok (.istore_n 3, 1) := by decide +kernel
theorem dX9_holds_48 : decode cX9_holds 48 = .ok (.lload_n 1, 1) := by decide +kernel
theorem dX9_holds_49 : decode cX9_holds 49 = .ok (.ldc2_w 174, 3) := by decide +kernel
theorem dX9_holds_52 : decode cX9_holds 52 = .ok (.lcmp, 1) := by decide +kernel
theorem dX9_holds_53 : decode cX9_holds 53 = .ok (.ifCond .le 7, 3) := by decide +kernel
theorem dX9_holds_56 : decode cX9_holds 56 = .ok (.iconst 1, 1) := by decide +kernel
theorem dX9_holds_57 : decode cX9_holds 57 = .ok (.goto 4, 3) := by decide +kernel
theorem dX9_holds_60 : decode cX9_holds 60 = .ok (.iconst 0, 1) := by decide +kernel
theorem dX9_holds_61 : decode cX9_holds 61 = .ok (.istore 4, 2) := by decide +kernel
theorem dX9_holds_63 : decode cX9_holds 63 = .ok (.aload_n 0, 1) := by decide +kernel
theorem dX9_holds_64 : decode cX9_holds 64 = .ok (.getfield 71, 3) := by decide +kernel
theorem dX9_holds_67 : decode cX9_holds 67 = .ok (.ifCond .ne 7, 3) := by decide +kernel
theorem dX9_holds_70 : decode cX9_holds 70 = .ok (.iload_n 3, 1) := by decide +kernel
theorem dX9_holds_71 : decode cX9_holds 71 = .ok (.goto 46, 3) := by decide +kernel
theorem dX9_holds_74 : decode cX9_holds 74 = .ok (.aload_n 0, 1) := by decide +kernel
theorem dX9_holds_75 : decode cX9_holds 75 = .ok (.getfield 71, 3) := by decide +kernel
theorem dX9_holds_78 : decode cX9_holds 78 = .ok (.iconst 1, 1) := by decide +kernel
theorem dX9_holds_79 : decode cX9_holds 79 = .ok (.if_icmp .ne 15, 3) := by decide +kernel
theorem dX9_holds_82 : decode cX9_holds 82 = .ok (.iload_n 3, 1) := by decide +kernel
theorem dX9_holds_83 : decode cX9_holds 83 = .ok (.ifCond .ne 7, 3) := by decide +kernel
theorem dX9_holds_86 : decode cX9_holds 86 = .ok (.iconst 1, 1) := by decide +kernel
theorem dX9_holds_87 : decode cX9_holds 87 = .ok (.goto 30, 3) := by decide +kernel
theorem dX9_holds_90 : decode cX9_holds 90 = .ok (.iconst 0, 1) := by decide +kernel
theorem dX9_holds_91 : decode cX9_holds 91 = .ok (.goto 26, 3) := by decide +kernel
theorem dX9_holds_94 : decode cX9_holds 94 = .ok (.aload_n 0, 1) := by decide +kernel
theorem dX9_holds_95 : decode cX9_holds 95 = .ok (.getfield 71, 3) := by decide +kernel
theorem dX9_holds_98 : decode cX9_holds 98 = .ok (.iconst 2, 1) := by decide +kernel
theorem dX9_holds_99 : decode cX9_holds 99 = .ok (.if_icmp .ne 16, 3) := by decide +kernel
theorem dX9_holds_102 : decode cX9_holds 102 = .ok (.iload 4, 2) := by decide +kernel
theorem dX9_holds_104 : decode cX9_holds 104 = .ok (.ifCond .ne 7, 3) := by decide +kernel
theorem dX9_holds_107 : decode cX9_holds 107 = .ok (.iconst 1, 1) := by decide +kernel
theorem dX9_holds_108 : decode cX9_holds 108 = .ok (.goto 9, 3) := by decide +kernel
theorem dX9_holds_111 : decode cX9_holds 111 = .ok (.iconst 0, 1) := by decide +kernel
theorem dX9_holds_112 : decode cX9_holds 112 = .ok (.goto 5, 3) := by decide +kernel
theorem dX9_holds_115 : decode cX9_holds 115 = .ok (.iload 4, 2) := by decide +kernel
theorem dX9_holds_117 : decode cX9_holds 117 = .ok (.ireturn, 1) := by decide +kernel
theorem dX9_holds_118 : decode cX9_holds 118 = .ok (.aload_n 0, 1) := by decide +kernel
theorem dX9_holds_119 : decode cX9_holds 119 = .ok (.getfield 16, 3) := by decide +kernel
theorem dX9_holds_122 : decode cX9_holds 122 = .ok (.bipush 16, 2) := by decide +kernel
theorem dX9_holds_124 : decode cX9_holds 124 = .ok (.aload_n 0, 1) := by decide +kernel
theorem dX9_holds_125 : decode cX9_holds 125 = .ok (.getfield 71, 3) := by decide +kernel
theorem dX9_holds_128 : decode cX9_holds 128 = .ok (.iadd, 1) := by decide +kernel
theorem dX9_holds_129 : decode cX9_holds 129 = .ok (.laload, 1) := by decide +kernel
theorem dX9_holds_130 : decode cX9_holds 130 = .ok (.ldc2_w 44, 3) := by decide +kernel
theorem dX9_holds_133 : decode cX9_holds 133 = .ok (.invokestatic 176, 3) := by decide +kernel
theorem dX9_holds_136 : decode cX9_holds 136 = .ok (.lstore_n 1, 1) := by decide +kernel
theorem dX9_holds_137 : decode cX9_holds 137 = .ok (.aload_n 0, 1) := by decide +kernel
theorem dX9_holds_138 : decode cX9_holds 138 = .ok (.getfield 16, 3) := by decide +kernel
theorem dX9_holds_141 : decode cX9_holds 141 = .ok (.bipush 16, 2) := by decide +kernel
theorem dX9_holds_143 : decode cX9_holds 143 = .ok (.aload_n 0, 1) := by decide +kernel
theorem dX9_holds_144 : decode cX9_holds 144 = .ok (.getfield 83, 3) := by decide +kernel
theorem dX9_holds_147 : decode cX9_holds 147 = .ok (.iadd, 1) := by decide +kernel
theorem dX9_holds_148 : decode cX9_holds 148 = .ok (.laload, 1) := by decide +kernel
theorem dX9_holds_149 : decode cX9_holds 149 = .ok (.ldc2_w 44, 3) := by decide +kernel
theorem dX9_holds_152 : decode cX9_holds 152 = .ok (.invokestatic 176, 3) := by decide +kernel
theorem dX9_holds_155 : decode cX9_holds 155 = .ok (.lstore_n 3, 1) := by decide +kernel
theorem dX9_holds_156 : decode cX9_holds 156 = .ok (.aload_n 0, 1) := by decide +kernel
theorem dX9_holds_157 : decode cX9_holds 157 = .ok (.getfield 68, 3) := by decide +kernel
theorem dX9_holds_160 : decode cX9_holds 160 = .ok (.iconst 4, 1) := by decide +kernel
theorem dX9_holds_161 : decode cX9_holds 161 = .ok (.if_icmp .ne 17, 3) := by decide +kernel
