theorem dX9_holds_164 : decode cX9_holds 164 = .ok (.lload_n 1, 1) := by decide +kernel
theorem dX9_holds_165 : decode cX9_holds 165 = .ok (.lload_n 3, 1) := by decide +kernel
theorem dX9_holds_166 : decode cX9_holds 166 = .ok (.lcmp, 1) := by decide +kernel
theorem dX9_holds_167 : decode cX9_holds 167 = .ok (.ifCond .ne 7, 3) := by decide +kernel
theorem dX9_holds_170 : decode cX9_holds 170 = .ok (.iconst 1, 1) := by decide +kernel
theorem dX9_holds_171 : decode cX9_holds 171 = .ok (.goto 63, 3) := by decide +kernel
theorem dX9_holds_174 : decode cX9_holds 174 = .ok (.iconst 0, 1) := by decide +kernel
theorem dX9_holds_175 : decode cX9_holds 175 = .ok (.goto 59, 3) := by decide +kernel
theorem dX9_holds_178 : decode cX9_holds 178 = .ok (.aload_n 0, 1) := by decide +kernel
theorem dX9_holds_179 : decode cX9_holds 179 = .ok (.getfield 68, 3) := by decide +kernel
theorem dX9_holds_182 : decode cX9_holds 182 = .ok (.iconst 5, 1) := by decide +kernel
theorem dX9_holds_183 : decode cX9_holds 183 = .ok (.if_icmp .ne 17, 3) := by decide +kernel
theorem dX9_holds_186 : decode cX9_holds 186 = .ok (.lload_n 1, 1) := by decide +kernel
theorem dX9_holds_187 : decode cX9_holds 187 = .ok (.lload_n 3, 1) := by decide +kernel
theorem dX9_holds_188 : decode cX9_holds 188 = .ok (.lcmp, 1) := by decide +kernel
theorem dX9_holds_189 : decode cX9_holds 189 = .ok (.ifCond .eq 7, 3) := by decide +kernel
theorem dX9_holds_192 : decode cX9_holds 192 = .ok (.iconst 1, 1) := by decide +kernel
theorem dX9_holds_193 : decode cX9_holds 193 = .ok (.goto 41, 3) := by decide +kernel
theorem dX9_holds_196 : decode cX9_holds 196 = .ok (.iconst 0, 1) := by decide +kernel
theorem dX9_holds_197 : decode cX9_holds 197 = .ok (.goto 37, 3) := by decide +kernel
theorem dX9_holds_200 : decode cX9_holds 200 = .ok (.aload_n 0, 1) := by decide +kernel
theorem dX9_holds_201 : decode cX9_holds 201 = .ok (.getfield 68, 3) := by decide +kernel
theorem dX9_holds_204 : decode cX9_holds 204 = .ok (.bipush 6, 2) := by decide +kernel
theorem dX9_holds_206 : decode cX9_holds 206 = .ok (.if_icmp .ne 17, 3) := by decide +kernel
theorem dX9_holds_209 : decode cX9_holds 209 = .ok (.lload_n 1, 1) := by decide +kernel
theorem dX9_holds_210 : decode cX9_holds 210 = .ok (.lload_n 3, 1) := by decide +kernel
theorem dX9_holds_211 : decode cX9_holds 211 = .ok (.lcmp, 1) := by decide +kernel
theorem dX9_holds_212 : decode cX9_holds 212 = .ok (.ifCond .lt 7, 3) := by decide +kernel
theorem dX9_holds_215 : decode cX9_holds 215 = .ok (.iconst 1, 1) := by decide +kernel
theorem dX9_holds_216 : decode cX9_holds 216 = .ok (.goto 18, 3) := by decide +kernel
theorem dX9_holds_219 : decode cX9_holds 219 = .ok (.iconst 0, 1) := by decide +kernel
theorem dX9_holds_220 : decode cX9_holds 220 = .ok (.goto 14, 3) := by decide +kernel
theorem dX9_holds_223 : decode cX9_holds 223 = .ok (.lload_n 1, 1) := by decide +kernel
theorem dX9_holds_224 : decode cX9_holds 224 = .ok (.lload_n 3, 1) := by decide +kernel
theorem dX9_holds_225 : decode cX9_holds 225 = .ok (.lcmp, 1) := by decide +kernel
theorem dX9_holds_226 : decode cX9_holds 226 = .ok (.ifCond .ge 7, 3) := by decide +kernel
theorem dX9_holds_229 : decode cX9_holds 229 = .ok (.iconst 1, 1) := by decide +kernel
theorem dX9_holds_230 : decode cX9_holds 230 = .ok (.goto 4, 3) := by decide +kernel
theorem dX9_holds_233 : decode cX9_holds 233 = .ok (.iconst 0, 1) := by decide +kernel
theorem dX9_holds_234 : decode cX9_holds 234 = .ok (.ireturn, 1) := by decide +kernel
set_option maxRecDepth 20000 in
theorem ggX9_jump_X9_need_1 : ∀ w ∈ ([.fieldLink RX9 96 "ScoreboardCoreModel" "needs" "I"] : List Cond), w ∈ wsX9_jump := List.forall_mem_cons.mpr ⟨List.mem_of_getElem? (i := 1) rfl, fun _ h => nomatch h⟩
set_option maxRecDepth 20000 in
theorem ggX9_jump_X9_need_2 : ∀ w ∈ wsX90, w ∈ wsX9_jump := fun w h => List.mem_cons_of_mem _ (List.mem_append_right _ (h))
theorem ggX9_jump_X9_need_m : ∀ w ∈ wsX9_need, w ∈ wsX9_jump := fun w h => (List.mem_cons.mp h).elim (fun e => by rw [e]; exact List.mem_of_getElem? (i := 24) rfl) (fun h => (List.mem_append.mp h).elim (fun h => ggX9_jump_X9_need_1 w h) (fun h => ggX9_jump_X9_need_2 w h))
set_option maxRecDepth 20000 in
theorem ggX9_jump_X9_need : GoodIn wsX9_jump wsX9_need := goodIn_sub ggX9_jump_X9_need_m (by decide +kernel)
set_option maxRecDepth 20000 in
theorem ggX9_jump_X9_freeFrom_1 : ∀ w ∈ ([.fieldLink RX9 30 "ScoreboardCoreModel" "free" "[J", .methodLink RX9 144 yX9_later, .static yX9_later, .initialized RX9, .code yX9_later cX9_later 4 (some .long)] : List Cond), w ∈ wsX9_jump := List.forall_mem_cons.mpr ⟨List.mem_of_getElem? (i := 29) rfl, List.forall_mem_cons.mpr ⟨List.mem_of_getElem? (i := 30) rfl, List.forall_mem_cons.mpr ⟨List.mem_of_getElem? (i := 31) rfl, List.forall_mem_cons.mpr ⟨List.mem_of_getElem? (i := 23) rfl, List.forall_mem_cons.mpr ⟨List.mem_of_getElem? (i := 32) rfl, fun _ h => nomatch h⟩⟩⟩⟩⟩
set_option maxRecDepth 20000 in
theorem ggX9_jump_X9_freeFrom_2 : ∀ w ∈ wsX90, w ∈ wsX9_jump := fun w h => List.mem_cons_of_mem _ (List.mem_append_right _ (h))
theorem ggX9_jump_X9_freeFrom_m : ∀ w ∈ wsX9_freeFrom, w ∈ wsX9_jump := fun w h => (List.mem_cons.mp h).elim (fun e => by rw [e]; exact List.mem_of_getElem? (i := 28) rfl) (fun h => (List.mem_append.mp h).elim (fun h => ggX9_jump_X9_freeFrom_1 w h) (fun h => ggX9_jump_X9_freeFrom_2 w h))
set_option maxRecDepth 20000 in
theorem ggX9_jump_X9_freeFrom : GoodIn wsX9_jump wsX9_freeFrom := goodIn_sub ggX9_jump_X9_freeFrom_m (by decide +kernel)
set_option maxRecDepth 20000 in
theorem ggX9_jump_X9_later_1 : ∀ w ∈ ([] : List Cond), w ∈ wsX9_jump := fun _ h => nomatch h
theorem ggX9_jump_X9_later_m : ∀ w ∈ wsX9_later, w ∈ wsX9_jump := fun w h => (List.mem_cons.mp h).elim (fun e => by rw [e]; exact List.mem_of_getElem? (i := 32) rfl) (fun h => ggX9_jump_X9_later_1 w h)
set_option maxRecDepth 20000 in
theorem ggX9_jump_X9_later : GoodIn wsX9_jump wsX9_later := goodIn_sub ggX9_jump_X9_later_m (by decide +kernel)
set_option maxRecDepth 20000 in
theorem ggX9_jump_X9_holds_1 : ∀ w ∈ ([.fieldLink RX9 68 "ScoreboardCoreModel" "op" "I", .fieldLink RX9 16 "ScoreboardCoreModel" "\x72" "[J", .fieldLink RX9 83 "ScoreboardCoreModel" "j" "I", .constantLong RX9 42 (1152921504606846975), .constantLong RX9 174 (576460752303423487), .fieldLink RX9 71 "ScoreboardCoreModel" "i" "I", .constantLong RX9 44 (262143), .methodLink RX9 176 yX9_signed, .static yX9_signed, .initialized RX9, .code yX9_signed cX9_signed 4 (some .long), .constantLong RX9 60 (2)] : List Cond), w ∈ wsX9_jump := List.forall_mem_cons.mpr ⟨List.mem_of_getElem? (i := 2) rfl, List.forall_mem_cons.mpr ⟨List.mem_of_getElem? (i := 12) rfl, List.forall_mem_cons.mpr ⟨List.mem_of_getElem? (i := 4) rfl, List.forall_mem_cons.mpr ⟨List.mem_of_getElem? (i := 37) rfl, List.forall_mem_cons.mpr ⟨List.mem_of_getElem? (i := 38) rfl, List.forall_mem_cons.mpr ⟨List.mem_of_getElem? (i := 3) rfl, List.forall_mem_cons.mpr ⟨List.mem_of_getElem? (i := 14) rfl, List.forall_mem_cons.mpr ⟨List.mem_of_getElem? (i := 39) rfl, List.forall_mem_cons.mpr ⟨List.mem_of_getElem? (i := 40) rfl, List.forall_mem_cons.mpr ⟨List.mem_of_getElem? (i := 23) rfl, List.forall_mem_cons.mpr ⟨List.mem_of_getElem? (i := 41) rfl, List.forall_mem_cons.mpr ⟨List.mem_of_getElem? (i := 42) rfl, fun _ h => nomatch h⟩⟩⟩⟩⟩⟩⟩⟩⟩⟩⟩⟩
set_option maxRecDepth 20000 in
theorem ggX9_jump_X9_holds_2 : ∀ w ∈ wsX90, w ∈ wsX9_jump := fun w h => List.mem_cons_of_mem _ (List.mem_append_right _ (h))
theorem ggX9_jump_X9_holds_m : ∀ w ∈ wsX9_holds, w ∈ wsX9_jump := fun w h => (List.mem_cons.mp h).elim (fun e => by rw [e]; exact List.mem_of_getElem? (i := 36) rfl) (fun h => (List.mem_append.mp h).elim (fun h => ggX9_jump_X9_holds_1 w h) (fun h => ggX9_jump_X9_holds_2 w h))
set_option maxRecDepth 20000 in
theorem ggX9_jump_X9_holds : GoodIn wsX9_jump wsX9_holds := goodIn_sub ggX9_jump_X9_holds_m (by decide +kernel)
set_option maxRecDepth 20000 in
theorem ggX9_jump_X9_goOn_1 : ∀ w ∈ ([.fieldLink RX9 53 "ScoreboardCoreModel" "parcel" "I", .fieldLink RX9 74 "ScoreboardCoreModel" "size" "I", .fieldLink RX9 50 "ScoreboardCoreModel" "word" "I"] : List Cond), w ∈ wsX9_jump := List.forall_mem_cons.mpr ⟨List.mem_of_getElem? (i := 19) rfl, List.forall_mem_cons.mpr ⟨List.mem_of_getElem? (i := 47) rfl, List.forall_mem_cons.mpr ⟨List.mem_of_getElem? (i := 17) rfl, fun _ h => nomatch h⟩⟩⟩
set_option maxRecDepth 20000 in
theorem ggX9_jump_X9_goOn_2 : ∀ w ∈ wsX90, w ∈ wsX9_jump := fun w h => List.mem_cons_of_mem _ (List.mem_append_right _ (h))
theorem ggX9_jump_X9_goOn_m : ∀ w ∈ wsX9_goOn, w ∈ wsX9_jump := fun w h => (List.mem_cons.mp h).elim (fun e => by rw [e]; exact List.mem_of_getElem? (i := 46) rfl) (fun h => (List.mem_append.mp h).elim (fun h => ggX9_jump_X9_goOn_1 w h) (fun h => ggX9_jump_X9_goOn_2 w h))
set_option maxRecDepth 20000 in
theorem ggX9_jump_X9_goOn : GoodIn wsX9_jump wsX9_goOn := goodIn_sub ggX9_jump_X9_goOn_m (by decide +kernel)
set_option maxRecDepth 20000 in
theorem ggX9_jump_X9_sum_1 : ∀ w ∈ ([] : List Cond), w ∈ wsX9_jump := fun _ h => nomatch h
theorem ggX9_jump_X9_sum_m : ∀ w ∈ wsX9_sum, w ∈ wsX9_jump := fun w h => (List.mem_cons.mp h).elim (fun e => by rw [e]; exact List.mem_of_getElem? (i := 50) rfl) (fun h => ggX9_jump_X9_sum_1 w h)
set_option maxRecDepth 20000 in
theorem ggX9_jump_X9_sum : GoodIn wsX9_jump wsX9_sum := goodIn_sub ggX9_jump_X9_sum_m (by decide +kernel)
theorem dX9_jump_0 : decode cX9_jump 0 = .ok (.aload_n 0, 1) := by decide +kernel
theorem dX9_jump_1 : decode cX9_jump 1 = .ok (.iconst 0, 1) := by decide +kernel
theorem dX9_jump_2 : decode cX9_jump 2 = .ok (.putfield 96, 3) := by decide +kernel
theorem dX9_jump_5 : decode cX9_jump 5 = .ok (.aload_n 0, 1) := by decide +kernel
theorem dX9_jump_6 : decode cX9_jump 6 = .ok (.getfield 68, 3) := by decide +kernel
theorem dX9_jump_9 : decode cX9_jump 9 = .ok (.iconst 2, 1) := by decide +kernel
theorem dX9_jump_10 : decode cX9_jump 10 = .ok (.if_icmp .ne 17, 3) := by decide +kernel
theorem dX9_jump_13 : decode cX9_jump 13 = .ok (.aload_n 0, 1) := by decide +kernel
theorem dX9_jump_14 : decode cX9_jump 14 = .ok (.bipush 16, 2) := by decide +kernel
theorem dX9_jump_16 : decode cX9_jump 16 = .ok (.aload_n 0, 1) := by decide +kernel
theorem dX9_jump_17 : decode cX9_jump 17 = .ok (.getfield 71, 3) := by decide +kernel
theorem dX9_jump_20 : decode cX9_jump 20 = .ok (.iadd, 1) := by decide +kernel
theorem dX9_jump_21 : decode cX9_jump 21 = .ok (.invokevirtual 102, 3) := by decide +kernel
theorem dX9_jump_24 : decode cX9_jump 24 = .ok (.goto 52, 3) := by decide +kernel
theorem dX9_jump_27 : decode cX9_jump 27 = .ok (.aload_n 0, 1) := by decide +kernel
theorem dX9_jump_28 : decode cX9_jump 28 = .ok (.getfield 68, 3) := by decide +kernel
theorem dX9_jump_31 : decode cX9_jump 31 = .ok (.iconst 3, 1) := by decide +kernel
theorem dX9_jump_32 : decode cX9_jump 32 = .ok (.if_icmp .ne 14, 3) := by decide +kernel
theorem dX9_jump_35 : decode cX9_jump 35 = .ok (.aload_n 0, 1) := by decide +kernel
theorem dX9_jump_36 : decode cX9_jump 36 = .ok (.aload_n 0, 1) := by decide +kernel
theorem dX9_jump_37 : decode cX9_jump 37 = .ok (.getfield 83, 3) := by decide +kernel
theorem dX9_jump_40 : decode cX9_jump 40 = .ok (.invokevirtual 102, 3) := by decide +kernel
theorem dX9_jump_43 : decode cX9_jump 43 = .ok (.goto 33, 3) := by decide +kernel
theorem dX9_jump_46 : decode cX9_jump 46 = .ok (.aload_n 0, 1) := by decide +kernel
theorem dX9_jump_47 : decode cX9_jump 47 = .ok (.getfield 68, 3) := by decide +kernel
theorem dX9_jump_50 : decode cX9_jump 50 = .ok (.iconst 3, 1) := by decide +kernel
theorem dX9_jump_51 : decode cX9_jump 51 = .ok (.if_icmp .le 25, 3) := by decide +kernel
theorem dX9_jump_54 : decode cX9_jump 54 = .ok (.aload_n 0, 1) := by decide +kernel
theorem dX9_jump_55 : decode cX9_jump 55 = .ok (.bipush 16, 2) := by decide +kernel
theorem dX9_jump_57 : decode cX9_jump 57 = .ok (.aload_n 0, 1) := by decide +kernel
theorem dX9_jump_58 : decode cX9_jump 58 = .ok (.getfield 71, 3) := by decide +kernel
theorem dX9_jump_61 : decode cX9_jump 61 = .ok (.iadd, 1) := by decide +kernel
theorem dX9_jump_62 : decode cX9_jump 62 = .ok (.invokevirtual 102, 3) := by decide +kernel
theorem dX9_jump_65 : decode cX9_jump 65 = .ok (.aload_n 0, 1) := by decide +kernel
theorem dX9_jump_66 : decode cX9_jump 66 = .ok (.bipush 16, 2) := by decide +kernel
theorem dX9_jump_68 : decode cX9_jump 68 = .ok (.aload_n 0, 1) := by decide +kernel
theorem dX9_jump_69 : decode cX9_jump 69 = .ok (.getfield 83, 3) := by decide +kernel
theorem dX9_jump_72 : decode cX9_jump 72 = .ok (.iadd, 1) := by decide +kernel
theorem dX9_jump_73 : decode cX9_jump 73 = .ok (.invokevirtual 102, 3) := by decide +kernel
theorem dX9_jump_76 : decode cX9_jump 76 = .ok (.aload_n 0, 1) := by decide +kernel
theorem dX9_jump_77 : decode cX9_jump 77 = .ok (.getfield 152, 3) := by decide +kernel
theorem dX9_jump_80 : decode cX9_jump 80 = .ok (.aload_n 0, 1) := by decide +kernel
theorem dX9_jump_81 : decode cX9_jump 81 = .ok (.aload_n 0, 1) := by decide +kernel
theorem dX9_jump_82 : decode cX9_jump 82 = .ok (.getfield 96, 3) := by decide +kernel
theorem dX9_jump_85 : decode cX9_jump 85 = .ok (.invokevirtual 156, 3) := by decide +kernel
theorem dX9_jump_88 : decode cX9_jump 88 = .ok (.invokestatic 144, 3) := by decide +kernel
theorem dX9_jump_91 : decode cX9_jump 91 = .ok (.lstore_n 1, 1) := by decide +kernel
theorem dX9_jump_92 : decode cX9_jump 92 = .ok (.aload_n 0, 1) := by decide +kernel
theorem dX9_jump_93 : decode cX9_jump 93 = .ok (.getfield 68, 3) := by decide +kernel
theorem dX9_jump_96 : decode cX9_jump 96 = .ok (.iconst 1, 1) := by decide +kernel
theorem dX9_jump_97 : decode cX9_jump 97 = .ok (.if_icmp .ne 16, 3) := by decide +kernel
theorem dX9_jump_100 : decode cX9_jump 100 = .ok (.lload_n 1, 1) := by decide +kernel
theorem dX9_jump_101 : decode cX9_jump 101 = .ok (.aload_n 0, 1) := by decide +kernel
theorem dX9_jump_102 : decode cX9_jump 102 = .ok (.getfield 164, 3) := by decide +kernel
theorem dX9_jump_105 : decode cX9_jump 105 = .ok (.lconst 1, 1) := by decide +kernel
theorem dX9_jump_106 : decode cX9_jump 106 = .ok (.ladd, 1) := by decide +kernel
theorem dX9_jump_107 : decode cX9_jump 107 = .ok (.invokestatic 144, 3) := by decide +kernel
theorem dX9_jump_110 : decode cX9_jump 110 = .ok (.goto 4, 3) := by decide +kernel
theorem dX9_jump_113 : decode cX9_jump 113 = .ok (.lload_n 1, 1) := by decide +kernel
theorem dX9_jump_114 : decode cX9_jump 114 = .ok (.lstore_n 1, 1) := by decide +kernel
theorem dX9_jump_115 : decode cX9_jump 115 = .ok (.aload_n 0, 1) := by decide +kernel
theorem dX9_jump_116 : decode cX9_jump 116 = .ok (.getfield 27, 3) := by decide +kernel
theorem dX9_jump_119 : decode cX9_jump 119 = .ok (.iconst 2, 1) := by decide +kernel
theorem dX9_jump_120 : decode cX9_jump 120 = .ok (.aload_n 0, 1) := by decide +kernel
theorem dX9_jump_121 : decode cX9_jump 121 = .ok (.getfield 27, 3) := by decide +kernel
theorem dX9_jump_124 : decode cX9_jump 124 = .ok (.iconst 2, 1) := by decide +kernel
theorem dX9_jump_125 : decode cX9_jump 125 = .ok (.laload, 1) := by decide +kernel
theorem dX9_jump_126 : decode cX9_jump 126 = .ok (.lload_n 1, 1) := by decide +kernel
theorem dX9_jump_127 : decode cX9_jump 127 = .ok (.ladd, 1) := by decide +kernel
theorem dX9_jump_128 : decode cX9_jump 128 = .ok (.aload_n 0, 1) := by decide +kernel
theorem dX9_jump_129 : decode cX9_jump 129 = .ok (.getfield 152, 3) := by decide +kernel
theorem dX9_jump_132 : decode cX9_jump 132 = .ok (.lsub, 1) := by decide +kernel
theorem dX9_jump_133 : decode cX9_jump 133 = .ok (.lastore, 1) := by decide +kernel
theorem dX9_jump_134 : decode cX9_jump 134 = .ok (.aload_n 0, 1) := by decide +kernel
theorem dX9_jump_135 : decode cX9_jump 135 = .ok (.aload_n 0, 1) := by decide +kernel
theorem dX9_jump_136 : decode cX9_jump 136 = .ok (.getfield 167, 3) := by decide +kernel
theorem dX9_jump_139 : decode cX9_jump 139 = .ok (.lload_n 1, 1) := by decide +kernel
theorem dX9_jump_140 : decode cX9_jump 140 = .ok (.invokestatic 144, 3) := by decide +kernel
theorem dX9_jump_143 : decode cX9_jump 143 = .ok (.putfield 167, 3) := by decide +kernel
theorem dX9_jump_146 : decode cX9_jump 146 = .ok (.aload_n 0, 1) := by decide +kernel
theorem dX9_jump_147 : decode cX9_jump 147 = .ok (.getfield 23, 3) := by decide +kernel
theorem dX9_jump_150 : decode cX9_jump 150 = .ok (.bipush 6, 2) := by decide +kernel
theorem dX9_jump_152 : decode cX9_jump 152 = .ok (.dup2, 1) := by decide +kernel
theorem dX9_jump_153 : decode cX9_jump 153 = .ok (.iaload, 1) := by decide +kernel
theorem dX9_jump_154 : decode cX9_jump 154 = .ok (.iconst 1, 1) := by decide +kernel
theorem dX9_jump_155 : decode cX9_jump 155 = .ok (.iadd, 1) := by decide +kernel
theorem dX9_jump_156 : decode cX9_jump 156 = .ok (.iastore, 1) := by decide +kernel
theorem dX9_jump_157 : decode cX9_jump 157 = .ok (.aload_n 0, 1) := by decide +kernel
theorem dX9_jump_158 : decode cX9_jump 158 = .ok (.invokevirtual 179, 3) := by decide +kernel
theorem dX9_jump_161 : decode cX9_jump 161 = .ok (.istore_n 3, 1) := by decide +kernel
theorem dX9_jump_162 : decode cX9_jump 162 = .ok (.aload_n 0, 1) := by decide +kernel
theorem dX9_jump_163 : decode cX9_jump 163 = .ok (.lload_n 1, 1) := by decide +kernel
theorem dX9_jump_164 : decode cX9_jump 164 = .ok (.iload_n 3, 1) := by decide +kernel
theorem dX9_jump_165 : decode cX9_jump 165 = .ok (.ifCond .eq 9, 3) := by decide +kernel
theorem dX9_jump_168 : decode cX9_jump 168 = .ok (.ldc2_w 160, 3) := by decide +kernel
theorem dX9_jump_171 : decode cX9_jump 171 = .ok (.goto 6, 3) := by decide +kernel
theorem dX9_jump_174 : decode cX9_jump 174 = .ok (.ldc2_w 182, 3) := by decide +kernel
theorem dX9_jump_177 : decode cX9_jump 177 = .ok (.ladd, 1) := by decide +kernel
theorem dX9_jump_178 : decode cX9_jump 178 = .ok (.putfield 152, 3) := by decide +kernel
theorem dX9_jump_181 : decode cX9_jump 181 = .ok (.iload_n 3, 1) := by decide +kernel
theorem dX9_jump_182 : decode cX9_jump 182 = .ok (.ifCond .ne 8, 3) := by decide +kernel
theorem dX9_jump_185 : decode cX9_jump 185 = .ok (.aload_n 0, 1) := by decide +kernel
theorem dX9_jump_186 : decode cX9_jump 186 = .ok (.invokevirtual 184, 3) := by decide +kernel
theorem dX9_jump_189 : decode cX9_jump 189 = .ok (.return_, 1) := by decide +kernel
theorem dX9_jump_190 : decode cX9_jump 190 = .ok (.aload_n 0, 1) := by decide +kernel
theorem dX9_jump_191 : decode cX9_jump 191 = .ok (.getfield 23, 3) := by decide +kernel
theorem dX9_jump_194 : decode cX9_jump 194 = .ok (.bipush 7, 2) := by decide +kernel
theorem dX9_jump_196 : decode cX9_jump 196 = .ok (.dup2, 1) := by decide +kernel
theorem dX9_jump_197 : decode cX9_jump 197 = .ok (.iaload, 1) := by decide +kernel
theorem dX9_jump_198 : decode cX9_jump 198 = .ok (.iconst 1, 1) := by decide +kernel
theorem dX9_jump_199 : decode cX9_jump 199 = .ok (.iadd, 1) := by decide +kernel
theorem dX9_jump_200 : decode cX9_jump 200 = .ok (.iastore, 1) := by decide +kernel
theorem dX9_jump_201 : decode cX9_jump 201 = .ok (.aload_n 0, 1) := by decide +kernel
theorem dX9_jump_202 : decode cX9_jump 202 = .ok (.getfield 68, 3) := by decide +kernel
theorem dX9_jump_205 : decode cX9_jump 205 = .ok (.iconst 2, 1) := by decide +kernel
theorem dX9_jump_206 : decode cX9_jump 206 = .ok (.if_icmp .ne 30, 3) := by decide +kernel
theorem dX9_jump_209 : decode cX9_jump 209 = .ok (.aload_n 0, 1) := by decide +kernel
theorem dX9_jump_210 : decode cX9_jump 210 = .ok (.getfield 16, 3) := by decide +kernel
theorem dX9_jump_213 : decode cX9_jump 213 = .ok (.bipush 16, 2) := by decide +kernel
theorem dX9_jump_215 : decode cX9_jump 215 = .ok (.aload_n 0, 1) := by decide +kernel
theorem dX9_jump_216 : decode cX9_jump 216 = .ok (.getfield 71, 3) := by decide +kernel
theorem dX9_jump_219 : decode cX9_jump 219 = .ok (.iadd, 1) := by decide +kernel
theorem dX9_jump_220 : decode cX9_jump 220 = .ok (.laload, 1) := by decide +kernel
theorem dX9_jump_221 : decode cX9_jump 221 = .ok (.aload_n 0, 1) := by decide +kernel
theorem dX9_jump_222 : decode cX9_jump 222 = .ok (.getfield 93, 3) := by decide +kernel
theorem dX9_jump_225 : decode cX9_jump 225 = .ok (.i2l, 1) := by decide +kernel
theorem dX9_jump_226 : decode cX9_jump 226 = .ok (.ldc2_w 44, 3) := by decide +kernel
theorem dX9_jump_229 : decode cX9_jump 229 = .ok (.invokestatic 56, 3) := by decide +kernel
theorem dX9_jump_232 : decode cX9_jump 232 = .ok (.l2i, 1) := by decide +kernel
theorem dX9_jump_233 : decode cX9_jump 233 = .ok (.goto 7, 3) := by decide +kernel
theorem dX9_jump_236 : decode cX9_jump 236 = .ok (.aload_n 0, 1) := by decide +kernel
theorem dX9_jump_237 : decode cX9_jump 237 = .ok (.getfield 93, 3) := by decide +kernel
theorem dX9_jump_240 : decode cX9_jump 240 = .ok (.istore 4, 2) := by decide +kernel
theorem dX9_jump_242 : decode cX9_jump 242 = .ok (.aload_n 0, 1) := by decide +kernel
theorem dX9_jump_243 : decode cX9_jump 243 = .ok (.getfield 68, 3) := by decide +kernel
theorem dX9_jump_246 : decode cX9_jump 246 = .ok (.iconst 1, 1) := by decide +kernel
theorem dX9_jump_247 : decode cX9_jump 247 = .ok (.if_icmp .ne 62, 3) := by decide +kernel
theorem dX9_jump_250 : decode cX9_jump 250 = .ok (.aload_n 0, 1) := by decide +kernel
theorem dX9_jump_251 : decode cX9_jump 251 = .ok (.getfield 93, 3) := by decide +kernel
theorem dX9_jump_254 : decode cX9_jump 254 = .ok (.sipush 512, 3) := by decide +kernel
theorem dX9_jump_257 : decode cX9_jump 257 = .ok (.if_icmp .ge 44, 3) := by decide +kernel
theorem dX9_jump_260 : decode cX9_jump 260 = .ok (.aload_n 0, 1) := by decide +kernel
theorem dX9_jump_261 : decode cX9_jump 261 = .ok (.getfield 7, 3) := by decide +kernel
theorem dX9_jump_264 : decode cX9_jump 264 = .ok (.aload_n 0, 1) := by decide +kernel
theorem dX9_jump_265 : decode cX9_jump 265 = .ok (.getfield 93, 3) := by decide +kernel
theorem dX9_jump_268 : decode cX9_jump 268 = .ok (.ldc2_w 187, 3) := by decide +kernel
theorem dX9_jump_271 : decode cX9_jump 271 = .ok (.aload_n 0, 1) := by decide +kernel
theorem dX9_jump_272 : decode cX9_jump 272 = .ok (.getfield 50, 3) := by decide +kernel
theorem dX9_jump_275 : decode cX9_jump 275 = .ok (.iconst 1, 1) := by decide +kernel
theorem dX9_jump_276 : decode cX9_jump 276 = .ok (.iadd, 1) := by decide +kernel
theorem dX9_jump_277 : decode cX9_jump 277 = .ok (.i2l, 1) := by decide +kernel
theorem dX9_jump_278 : decode cX9_jump 278 = .ok (.bipush 30, 2) := by decide +kernel
theorem dX9_jump_280 : decode cX9_jump 280 = .ok (.lshl, 1) := by decide +kernel
theorem dX9_jump_281 : decode cX9_jump 281 = .ok (.lor, 1) := by decide +kernel
theorem dX9_jump_282 : decode cX9_jump 282 = .ok (.lastore, 1) := by decide +kernel
theorem dX9_jump_283 : decode cX9_jump 283 = .ok (.aload_n 0, 1) := by decide +kernel
theorem dX9_jump_284 : decode cX9_jump 284 = .ok (.getfield 13, 3) := by decide +kernel
theorem dX9_jump_287 : decode cX9_jump 287 = .ok (.aload_n 0, 1) := by decide +kernel
theorem dX9_jump_288 : decode cX9_jump 288 = .ok (.getfield 93, 3) := by decide +kernel
theorem dX9_jump_291 : decode cX9_jump 291 = .ok (.aload_n 0, 1) := by decide +kernel
theorem dX9_jump_292 : decode cX9_jump 292 = .ok (.getfield 7, 3) := by decide +kernel
theorem dX9_jump_295 : decode cX9_jump 295 = .ok (.aload_n 0, 1) := by decide +kernel
theorem dX9_jump_296 : decode cX9_jump 296 = .ok (.getfield 93, 3) := by decide +kernel
theorem dX9_jump_299 : decode cX9_jump 299 = .ok (.laload, 1) := by decide +kernel
theorem dX9_jump_300 : decode cX9_jump 300 = .ok (.lastore, 1) := by decide +kernel
theorem dX9_jump_301 : decode cX9_jump 301 = .ok (.aload_n 0, 1) := by decide +kernel
theorem dX9_jump_302 : decode cX9_jump 302 = .ok (.getfield 93, 3) := by decide +kernel
theorem dX9_jump_305 : decode cX9_jump 305 = .ok (.iconst 1, 1) := by decide +kernel
theorem dX9_jump_306 : decode cX9_jump 306 = .ok (.iadd, 1) := by decide +kernel
theorem dX9_jump_307 : decode cX9_jump 307 = .ok (.istore 4, 2) := by decide +kernel
theorem dX9_jump_309 : decode cX9_jump 309 = .ok (.aload_n 0, 1) := by decide +kernel
theorem dX9_jump_310 : decode cX9_jump 310 = .ok (.iload 4, 2) := by decide +kernel
theorem dX9_jump_312 : decode cX9_jump 312 = .ok (.putfield 50, 3) := by decide +kernel
theorem dX9_jump_315 : decode cX9_jump 315 = .ok (.aload_n 0, 1) := by decide +kernel
theorem dX9_jump_316 : decode cX9_jump 316 = .ok (.iconst 0, 1) := by decide +kernel
theorem dX9_jump_317 : decode cX9_jump 317 = .ok (.putfield 53, 3) := by decide +kernel
theorem dX9_jump_320 : decode cX9_jump 320 = .ok (.return_, 1) := by decide +kernel
theorem dX9_goOn_0 : decode cX9_goOn 0 = .ok (.aload_n 0, 1) := by decide +kernel
theorem dX9_goOn_1 : decode cX9_goOn 1 = .ok (.aload_n 0, 1) := by decide +kernel
theorem dX9_goOn_2 : decode cX9_goOn 2 = .ok (.getfield 53, 3) := by decide +kernel
theorem dX9_goOn_5 : decode cX9_goOn 5 = .ok (.aload_n 0, 1) := by decide +kernel
theorem dX9_goOn_6 : decode cX9_goOn 6 = .ok (.getfield 74, 3) := by decide +kernel
theorem dX9_goOn_9 : decode cX9_goOn 9 = .ok (.iadd, 1) := by decide +kernel
theorem dX9_goOn_10 : decode cX9_goOn 10 = .ok (.putfield 53, 3) := by decide +kernel
theorem dX9_goOn_13 : decode cX9_goOn 13 = .ok (.aload_n 0, 1) := by decide +kernel
theorem dX9_goOn_14 : decode cX9_goOn 14 = .ok (.getfield 53, 3) := by decide +kernel
theorem dX9_goOn_17 : decode cX9_goOn 17 = .ok (.iconst 3, 1) := by decide +kernel
theorem dX9_goOn_18 : decode cX9_goOn 18 = .ok (.if_icmp .le 18, 3) := by decide +kernel
theorem dX9_goOn_21 : decode cX9_goOn 21 = .ok (.aload_n 0, 1) := by decide +kernel
theorem dX9_goOn_22 : decode cX9_goOn 22 = .ok (.dup, 1) := by decide +kernel
theorem dX9_goOn_23 : decode cX9_goOn 23 = .ok (.getfield 50, 3) := by decide +kernel
theorem dX9_goOn_26 : decode cX9_goOn 26 = .ok (.iconst 1, 1) := by decide +kernel
theorem dX9_goOn_27 : decode cX9_goOn 27 = .ok (.iadd, 1) := by decide +kernel
theorem dX9_goOn_28 : decode cX9_goOn 28 = .ok (.putfield 50, 3) := by decide +kernel
theorem dX9_goOn_31 : decode cX9_goOn 31 = .ok (.aload_n 0, 1) := by decide +kernel
theorem dX9_goOn_32 : decode cX9_goOn 32 = .ok (.iconst 0, 1) := by decide +kernel
theorem dX9_goOn_33 : decode cX9_goOn 33 = .ok (.putfield 53, 3) := by decide +kernel
theorem dX9_goOn_36 : decode cX9_goOn 36 = .ok (.return_, 1) := by decide +kernel
theorem dX9_halt_0 : decode cX9_halt 0 = .ok (.aload_n 0, 1) := by decide +kernel
theorem dX9_halt_1 : decode cX9_halt 1 = .ok (.iload_n 1, 1) := by decide +kernel
theorem dX9_halt_2 : decode cX9_halt 2 = .ok (.putfield 19, 3) := by decide +kernel
theorem dX9_halt_5 : decode cX9_halt 5 = .ok (.return_, 1) := by decide +kernel
set_option maxRecDepth 20000 in
theorem ggX9_one_X9_halt_1 : ∀ w ∈ ([.fieldLink RX9 19 "ScoreboardCoreModel" "stop" "I"] : List Cond), w ∈ wsX9_one := List.forall_mem_cons.mpr ⟨List.mem_of_getElem? (i := 10) rfl, fun _ h => nomatch h⟩
set_option maxRecDepth 20000 in
theorem ggX9_one_X9_halt_2 : ∀ w ∈ wsX90, w ∈ wsX9_one := fun w h => List.mem_cons_of_mem _ (List.mem_append_right _ (h))
theorem ggX9_one_X9_halt_m : ∀ w ∈ wsX9_halt, w ∈ wsX9_one := fun w h => (List.mem_cons.mp h).elim (fun e => by rw [e]; exact List.mem_of_getElem? (i := 9) rfl) (fun h => (List.mem_append.mp h).elim (fun h => ggX9_one_X9_halt_1 w h) (fun h => ggX9_one_X9_halt_2 w h))
set_option maxRecDepth 20000 in
theorem ggX9_one_X9_halt : GoodIn wsX9_one wsX9_halt := goodIn_sub ggX9_one_X9_halt_m (by decide +kernel)
set_option maxRecDepth 20000 in
theorem ggX9_one_X9_take_1 : ∀ w ∈ ([.fieldLink RX9 53 "ScoreboardCoreModel" "parcel" "I", .fieldLink RX9 68 "ScoreboardCoreModel" "op" "I", .fieldLink RX9 71 "ScoreboardCoreModel" "i" "I", .fieldLink RX9 83 "ScoreboardCoreModel" "j" "I", .fieldLink RX9 86 "ScoreboardCoreModel" "k" "I", .fieldLink RX9 74 "ScoreboardCoreModel" "size" "I", .fieldLink RX9 93 "ScoreboardCoreModel" "number" "I", .methodLink RX9 79 yX9_parcelAt, .instanceMethod yX9_parcelAt, .selects RX9 yX9_parcelAt yX9_parcelAt, .initialized RX9, .code yX9_parcelAt cX9_parcelAt 2 (some .int), .fieldLink RX9 13 "ScoreboardCoreModel" "program" "[J", .fieldLink RX9 50 "ScoreboardCoreModel" "word" "I", .constantLong RX9 77 (32767), .methodLink RX9 89 yX9_hasNumber, .static yX9_hasNumber, .code yX9_hasNumber cX9_hasNumber 1 (some .boolean)] : List Cond), w ∈ wsX9_one := List.forall_mem_cons.mpr ⟨List.mem_of_getElem? (i := 15) rfl, List.forall_mem_cons.mpr ⟨List.mem_of_getElem? (i := 2) rfl, List.forall_mem_cons.mpr ⟨List.mem_of_getElem? (i := 16) rfl, List.forall_mem_cons.mpr ⟨List.mem_of_getElem? (i := 17) rfl, List.forall_mem_cons.mpr ⟨List.mem_of_getElem? (i := 18) rfl, List.forall_mem_cons.mpr ⟨List.mem_of_getElem? (i := 19) rfl, List.forall_mem_cons.mpr ⟨List.mem_of_getElem? (i := 20) rfl, List.forall_mem_cons.mpr ⟨List.mem_of_getElem? (i := 21) rfl, List.forall_mem_cons.mpr ⟨List.mem_of_getElem? (i := 22) rfl, List.forall_mem_cons.mpr ⟨List.mem_of_getElem? (i := 23) rfl, List.forall_mem_cons.mpr ⟨List.mem_of_getElem? (i := 8) rfl, List.forall_mem_cons.mpr ⟨List.mem_of_getElem? (i := 24) rfl, List.forall_mem_cons.mpr ⟨List.mem_of_getElem? (i := 25) rfl, List.forall_mem_cons.mpr ⟨List.mem_of_getElem? (i := 1) rfl, List.forall_mem_cons.mpr ⟨List.mem_of_getElem? (i := 26) rfl, List.forall_mem_cons.mpr ⟨List.mem_of_getElem? (i := 27) rfl, List.forall_mem_cons.mpr ⟨List.mem_of_getElem? (i := 28) rfl, List.forall_mem_cons.mpr ⟨List.mem_of_getElem? (i := 29) rfl, fun _ h => nomatch h⟩⟩⟩⟩⟩⟩⟩⟩⟩⟩⟩⟩⟩⟩⟩⟩⟩⟩
set_option maxRecDepth 20000 in
theorem ggX9_one_X9_take_2 : ∀ w ∈ wsX90, w ∈ wsX9_one := fun w h => List.mem_cons_of_mem _ (List.mem_append_right _ (h))
theorem ggX9_one_X9_take_m : ∀ w ∈ wsX9_take, w ∈ wsX9_one := fun w h => (List.mem_cons.mp h).elim (fun e => by rw [e]; exact List.mem_of_getElem? (i := 14) rfl) (fun h => (List.mem_append.mp h).elim (fun h => ggX9_one_X9_take_1 w h) (fun h => ggX9_one_X9_take_2 w h))
set_option maxRecDepth 20000 in
theorem ggX9_one_X9_take : GoodIn wsX9_one wsX9_take := goodIn_sub ggX9_one_X9_take_m (by decide +kernel)
set_option maxRecDepth 20000 in
theorem ggX9_one_X9_isUnknown_1 : ∀ w ∈ ([.fieldLink RX9 68 "ScoreboardCoreModel" "op" "I", .fieldLink RX9 71 "ScoreboardCoreModel" "i" "I", .fieldLink RX9 74 "ScoreboardCoreModel" "size" "I", .fieldLink RX9 53 "ScoreboardCoreModel" "parcel" "I"] : List Cond), w ∈ wsX9_one := List.forall_mem_cons.mpr ⟨List.mem_of_getElem? (i := 2) rfl, List.forall_mem_cons.mpr ⟨List.mem_of_getElem? (i := 16) rfl, List.forall_mem_cons.mpr ⟨List.mem_of_getElem? (i := 19) rfl, List.forall_mem_cons.mpr ⟨List.mem_of_getElem? (i := 15) rfl, fun _ h => nomatch h⟩⟩⟩⟩
set_option maxRecDepth 20000 in
theorem ggX9_one_X9_isUnknown_2 : ∀ w ∈ wsX90, w ∈ wsX9_one := fun w h => List.mem_cons_of_mem _ (List.mem_append_right _ (h))
theorem ggX9_one_X9_isUnknown_m : ∀ w ∈ wsX9_isUnknown, w ∈ wsX9_one := fun w h => (List.mem_cons.mp h).elim (fun e => by rw [e]; exact List.mem_of_getElem? (i := 33) rfl) (fun h => (List.mem_append.mp h).elim (fun h => ggX9_one_X9_isUnknown_1 w h) (fun h => ggX9_one_X9_isUnknown_2 w h))
set_option maxRecDepth 20000 in
theorem ggX9_one_X9_isUnknown : GoodIn wsX9_one wsX9_isUnknown := goodIn_sub ggX9_one_X9_isUnknown_m (by decide +kernel)
set_option maxRecDepth 20000 in
theorem ggX9_one_X9_jump_1 : ∀ w ∈ (wsX9_jump_r1 : List Cond), w ∈ wsX9_one := List.forall_mem_cons.mpr ⟨List.mem_of_getElem? (i := 38) rfl, List.forall_mem_cons.mpr ⟨List.mem_of_getElem? (i := 2) rfl, List.forall_mem_cons.mpr ⟨List.mem_of_getElem? (i := 16) rfl, List.forall_mem_cons.mpr ⟨List.mem_of_getElem? (i := 17) rfl, List.forall_mem_cons.mpr ⟨List.mem_of_getElem? (i := 4) rfl, List.forall_mem_cons.mpr ⟨List.mem_of_getElem? (i := 39) rfl, List.forall_mem_cons.mpr ⟨List.mem_of_getElem? (i := 40) rfl, List.forall_mem_cons.mpr ⟨List.mem_of_getElem? (i := 3) rfl, List.forall_mem_cons.mpr ⟨List.mem_of_getElem? (i := 41) rfl, List.forall_mem_cons.mpr ⟨List.mem_of_getElem? (i := 42) rfl, List.forall_mem_cons.mpr ⟨List.mem_of_getElem? (i := 43) rfl, List.forall_mem_cons.mpr ⟨List.mem_of_getElem? (i := 44) rfl, List.forall_mem_cons.mpr ⟨List.mem_of_getElem? (i := 20) rfl, List.forall_mem_cons.mpr ⟨List.mem_of_getElem? (i := 45) rfl, List.forall_mem_cons.mpr ⟨List.mem_of_getElem? (i := 46) rfl, List.forall_mem_cons.mpr ⟨List.mem_of_getElem? (i := 47) rfl, List.forall_mem_cons.mpr ⟨List.mem_of_getElem? (i := 1) rfl, List.forall_mem_cons.mpr ⟨List.mem_of_getElem? (i := 25) rfl, List.forall_mem_cons.mpr ⟨List.mem_of_getElem? (i := 15) rfl, List.forall_mem_cons.mpr ⟨List.mem_of_getElem? (i := 48) rfl, List.forall_mem_cons.mpr ⟨List.mem_of_getElem? (i := 49) rfl, List.forall_mem_cons.mpr ⟨List.mem_of_getElem? (i := 50) rfl, List.forall_mem_cons.mpr ⟨List.mem_of_getElem? (i := 8) rfl, List.forall_mem_cons.mpr ⟨List.mem_of_getElem? (i := 51) rfl, fun _ h => nomatch h⟩⟩⟩⟩⟩⟩⟩⟩⟩⟩⟩⟩⟩⟩⟩⟩⟩⟩⟩⟩⟩⟩⟩⟩
set_option maxRecDepth 20000 in
theorem ggX9_one_X9_jump_2 : ∀ w ∈ (wsX9_jump_r2 : List Cond), w ∈ wsX9_one := List.forall_mem_cons.mpr ⟨List.mem_of_getElem? (i := 52) rfl, List.forall_mem_cons.mpr ⟨List.mem_of_getElem? (i := 53) rfl, List.forall_mem_cons.mpr ⟨List.mem_of_getElem? (i := 54) rfl, List.forall_mem_cons.mpr ⟨List.mem_of_getElem? (i := 55) rfl, List.forall_mem_cons.mpr ⟨List.mem_of_getElem? (i := 56) rfl, List.forall_mem_cons.mpr ⟨List.mem_of_getElem? (i := 57) rfl, List.forall_mem_cons.mpr ⟨List.mem_of_getElem? (i := 58) rfl, List.forall_mem_cons.mpr ⟨List.mem_of_getElem? (i := 59) rfl, List.forall_mem_cons.mpr ⟨List.mem_of_getElem? (i := 60) rfl, List.forall_mem_cons.mpr ⟨List.mem_of_getElem? (i := 61) rfl, List.forall_mem_cons.mpr ⟨List.mem_of_getElem? (i := 62) rfl, List.forall_mem_cons.mpr ⟨List.mem_of_getElem? (i := 63) rfl, List.forall_mem_cons.mpr ⟨List.mem_of_getElem? (i := 64) rfl, List.forall_mem_cons.mpr ⟨List.mem_of_getElem? (i := 65) rfl, List.forall_mem_cons.mpr ⟨List.mem_of_getElem? (i := 66) rfl, List.forall_mem_cons.mpr ⟨List.mem_of_getElem? (i := 67) rfl, List.forall_mem_cons.mpr ⟨List.mem_of_getElem? (i := 68) rfl, List.forall_mem_cons.mpr ⟨List.mem_of_getElem? (i := 69) rfl, List.forall_mem_cons.mpr ⟨List.mem_of_getElem? (i := 70) rfl, List.forall_mem_cons.mpr ⟨List.mem_of_getElem? (i := 71) rfl, List.forall_mem_cons.mpr ⟨List.mem_of_getElem? (i := 72) rfl, List.forall_mem_cons.mpr ⟨List.mem_of_getElem? (i := 73) rfl, List.forall_mem_cons.mpr ⟨List.mem_of_getElem? (i := 19) rfl, List.forall_mem_cons.mpr ⟨List.mem_of_getElem? (i := 74) rfl, fun _ h => nomatch h⟩⟩⟩⟩⟩⟩⟩⟩⟩⟩⟩⟩⟩⟩⟩⟩⟩⟩⟩⟩⟩⟩⟩⟩
set_option maxRecDepth 20000 in
theorem ggX9_one_X9_jump_3 : ∀ w ∈ (wsX9_jump_r3 : List Cond), w ∈ wsX9_one := List.forall_mem_cons.mpr ⟨List.mem_of_getElem? (i := 75) rfl, List.forall_mem_cons.mpr ⟨List.mem_of_getElem? (i := 76) rfl, fun _ h => nomatch h⟩⟩
set_option maxRecDepth 20000 in
theorem ggX9_one_X9_jump_4 : ∀ w ∈ wsX90, w ∈ wsX9_one := fun w h => List.mem_cons_of_mem _ (List.mem_append_right _ (h))
theorem ggX9_one_X9_jump_m : ∀ w ∈ wsX9_jump, w ∈ wsX9_one := fun w h => (List.mem_cons.mp h).elim (fun e => by rw [e]; exact List.mem_of_getElem? (i := 37) rfl) (fun h => (List.mem_append.mp h).elim (fun h => (List.mem_append.mp h).elim (fun h => ggX9_one_X9_jump_1 w h) (fun h => (List.mem_append.mp h).elim (fun h => ggX9_one_X9_jump_2 w h) (fun h => ggX9_one_X9_jump_3 w h))) (fun h => ggX9_one_X9_jump_4 w h))
set_option maxRecDepth 20000 in
theorem ggX9_one_X9_jump : GoodIn wsX9_one wsX9_jump := goodIn_sub ggX9_one_X9_jump_m (by decide +kernel)
set_option maxRecDepth 20000 in
theorem ggX9_one_X9_later_1 : ∀ w ∈ ([] : List Cond), w ∈ wsX9_one := fun _ h => nomatch h
theorem ggX9_one_X9_later_m : ∀ w ∈ wsX9_later, w ∈ wsX9_one := fun w h => (List.mem_cons.mp h).elim (fun e => by rw [e]; exact List.mem_of_getElem? (i := 59) rfl) (fun h => ggX9_one_X9_later_1 w h)
set_option maxRecDepth 20000 in
theorem ggX9_one_X9_later : GoodIn wsX9_one wsX9_later := goodIn_sub ggX9_one_X9_later_m (by decide +kernel)
set_option maxRecDepth 20000 in
theorem ggX9_one_X9_goOn_1 : ∀ w ∈ ([.fieldLink RX9 53 "ScoreboardCoreModel" "parcel" "I", .fieldLink RX9 74 "ScoreboardCoreModel" "size" "I", .fieldLink RX9 50 "ScoreboardCoreModel" "word" "I"] : List Cond), w ∈ wsX9_one := List.forall_mem_cons.mpr ⟨List.mem_of_getElem? (i := 15) rfl, List.forall_mem_cons.mpr ⟨List.mem_of_getElem? (i := 19) rfl, List.forall_mem_cons.mpr ⟨List.mem_of_getElem? (i := 1) rfl, fun _ h => nomatch h⟩⟩⟩
set_option maxRecDepth 20000 in
theorem ggX9_one_X9_goOn_2 : ∀ w ∈ wsX90, w ∈ wsX9_one := fun w h => List.mem_cons_of_mem _ (List.mem_append_right _ (h))
theorem ggX9_one_X9_goOn_m : ∀ w ∈ wsX9_goOn, w ∈ wsX9_one := fun w h => (List.mem_cons.mp h).elim (fun e => by rw [e]; exact List.mem_of_getElem? (i := 73) rfl) (fun h => (List.mem_append.mp h).elim (fun h => ggX9_one_X9_goOn_1 w h) (fun h => ggX9_one_X9_goOn_2 w h))
set_option maxRecDepth 20000 in
theorem ggX9_one_X9_goOn : GoodIn wsX9_one wsX9_goOn := goodIn_sub ggX9_one_X9_goOn_m (by decide +kernel)
set_option maxRecDepth 20000 in
theorem ggX9_one_X9_find_1 : ∀ w ∈ ([.fieldLink RX9 96 "ScoreboardCoreModel" "needs" "I", .fieldLink RX9 99 "ScoreboardCoreModel" "gives" "I", .fieldLink RX9 68 "ScoreboardCoreModel" "op" "I", .fieldLink RX9 83 "ScoreboardCoreModel" "j" "I", .fieldLink RX9 86 "ScoreboardCoreModel" "k" "I", .fieldLink RX9 71 "ScoreboardCoreModel" "i" "I", .methodLink RX9 102 yX9_need, .instanceMethod yX9_need, .selects RX9 yX9_need yX9_need, .initialized RX9, .code yX9_need cX9_need 2 none, .methodLink RX9 106 yX9_give, .instanceMethod yX9_give, .selects RX9 yX9_give yX9_give, .code yX9_give cX9_give 2 none, .methodLink RX9 109 yX9_isMemory, .instanceMethod yX9_isMemory, .selects RX9 yX9_isMemory yX9_isMemory, .code yX9_isMemory cX9_isMemory 1 (some .boolean)] : List Cond), w ∈ wsX9_one := List.forall_mem_cons.mpr ⟨List.mem_of_getElem? (i := 38) rfl, List.forall_mem_cons.mpr ⟨List.mem_of_getElem? (i := 81) rfl, List.forall_mem_cons.mpr ⟨List.mem_of_getElem? (i := 2) rfl, List.forall_mem_cons.mpr ⟨List.mem_of_getElem? (i := 17) rfl, List.forall_mem_cons.mpr ⟨List.mem_of_getElem? (i := 18) rfl, List.forall_mem_cons.mpr ⟨List.mem_of_getElem? (i := 16) rfl, List.forall_mem_cons.mpr ⟨List.mem_of_getElem? (i := 48) rfl, List.forall_mem_cons.mpr ⟨List.mem_of_getElem? (i := 49) rfl, List.forall_mem_cons.mpr ⟨List.mem_of_getElem? (i := 50) rfl, List.forall_mem_cons.mpr ⟨List.mem_of_getElem? (i := 8) rfl, List.forall_mem_cons.mpr ⟨List.mem_of_getElem? (i := 51) rfl, List.forall_mem_cons.mpr ⟨List.mem_of_getElem? (i := 82) rfl, List.forall_mem_cons.mpr ⟨List.mem_of_getElem? (i := 83) rfl, List.forall_mem_cons.mpr ⟨List.mem_of_getElem? (i := 84) rfl, List.forall_mem_cons.mpr ⟨List.mem_of_getElem? (i := 85) rfl, List.forall_mem_cons.mpr ⟨List.mem_of_getElem? (i := 86) rfl, List.forall_mem_cons.mpr ⟨List.mem_of_getElem? (i := 87) rfl, List.forall_mem_cons.mpr ⟨List.mem_of_getElem? (i := 88) rfl, List.forall_mem_cons.mpr ⟨List.mem_of_getElem? (i := 89) rfl, fun _ h => nomatch h⟩⟩⟩⟩⟩⟩⟩⟩⟩⟩⟩⟩⟩⟩⟩⟩⟩⟩⟩
set_option maxRecDepth 20000 in
theorem ggX9_one_X9_find_2 : ∀ w ∈ wsX90, w ∈ wsX9_one := fun w h => List.mem_cons_of_mem _ (List.mem_append_right _ (h))
theorem ggX9_one_X9_find_m : ∀ w ∈ wsX9_find, w ∈ wsX9_one := fun w h => (List.mem_cons.mp h).elim (fun e => by rw [e]; exact List.mem_of_getElem? (i := 80) rfl) (fun h => (List.mem_append.mp h).elim (fun h => ggX9_one_X9_find_1 w h) (fun h => ggX9_one_X9_find_2 w h))
set_option maxRecDepth 20000 in
theorem ggX9_one_X9_find : GoodIn wsX9_one wsX9_find := goodIn_sub ggX9_one_X9_find_m (by decide +kernel)
set_option maxRecDepth 20000 in
theorem ggX9_one_X9_board_1 : ∀ w ∈ (wsX9_board_r1 : List Cond), w ∈ wsX9_one := List.forall_mem_cons.mpr ⟨List.mem_of_getElem? (i := 94) rfl, List.forall_mem_cons.mpr ⟨List.mem_of_getElem? (i := 4) rfl, List.forall_mem_cons.mpr ⟨List.mem_of_getElem? (i := 81) rfl, List.forall_mem_cons.mpr ⟨List.mem_of_getElem? (i := 40) rfl, List.forall_mem_cons.mpr ⟨List.mem_of_getElem? (i := 38) rfl, List.forall_mem_cons.mpr ⟨List.mem_of_getElem? (i := 42) rfl, List.forall_mem_cons.mpr ⟨List.mem_of_getElem? (i := 95) rfl, List.forall_mem_cons.mpr ⟨List.mem_of_getElem? (i := 96) rfl, List.forall_mem_cons.mpr ⟨List.mem_of_getElem? (i := 39) rfl, List.forall_mem_cons.mpr ⟨List.mem_of_getElem? (i := 56) rfl, List.forall_mem_cons.mpr ⟨List.mem_of_getElem? (i := 3) rfl, List.forall_mem_cons.mpr ⟨List.mem_of_getElem? (i := 16) rfl, List.forall_mem_cons.mpr ⟨List.mem_of_getElem? (i := 97) rfl, List.forall_mem_cons.mpr ⟨List.mem_of_getElem? (i := 98) rfl, List.forall_mem_cons.mpr ⟨List.mem_of_getElem? (i := 41) rfl, List.forall_mem_cons.mpr ⟨List.mem_of_getElem? (i := 19) rfl, List.forall_mem_cons.mpr ⟨List.mem_of_getElem? (i := 99) rfl, List.forall_mem_cons.mpr ⟨List.mem_of_getElem? (i := 100) rfl, List.forall_mem_cons.mpr ⟨List.mem_of_getElem? (i := 101) rfl, List.forall_mem_cons.mpr ⟨List.mem_of_getElem? (i := 8) rfl, List.forall_mem_cons.mpr ⟨List.mem_of_getElem? (i := 102) rfl, List.forall_mem_cons.mpr ⟨List.mem_of_getElem? (i := 2) rfl, List.forall_mem_cons.mpr ⟨List.mem_of_getElem? (i := 52) rfl, List.forall_mem_cons.mpr ⟨List.mem_of_getElem? (i := 53) rfl, fun _ h => nomatch h⟩⟩⟩⟩⟩⟩⟩⟩⟩⟩⟩⟩⟩⟩⟩⟩⟩⟩⟩⟩⟩⟩⟩⟩
set_option maxRecDepth 20000 in
theorem ggX9_one_X9_board_2 : ∀ w ∈ (wsX9_board_r2 : List Cond), w ∈ wsX9_one := List.forall_mem_cons.mpr ⟨List.mem_of_getElem? (i := 54) rfl, List.forall_mem_cons.mpr ⟨List.mem_of_getElem? (i := 55) rfl, List.forall_mem_cons.mpr ⟨List.mem_of_getElem? (i := 57) rfl, List.forall_mem_cons.mpr ⟨List.mem_of_getElem? (i := 58) rfl, List.forall_mem_cons.mpr ⟨List.mem_of_getElem? (i := 59) rfl, List.forall_mem_cons.mpr ⟨List.mem_of_getElem? (i := 86) rfl, List.forall_mem_cons.mpr ⟨List.mem_of_getElem? (i := 87) rfl, List.forall_mem_cons.mpr ⟨List.mem_of_getElem? (i := 88) rfl, List.forall_mem_cons.mpr ⟨List.mem_of_getElem? (i := 89) rfl, fun _ h => nomatch h⟩⟩⟩⟩⟩⟩⟩⟩⟩
set_option maxRecDepth 20000 in
theorem ggX9_one_X9_board_3 : ∀ w ∈ wsX90, w ∈ wsX9_one := fun w h => List.mem_cons_of_mem _ (List.mem_append_right _ (h))
theorem ggX9_one_X9_board_m : ∀ w ∈ wsX9_board, w ∈ wsX9_one := fun w h => (List.mem_cons.mp h).elim (fun e => by rw [e]; exact List.mem_of_getElem? (i := 93) rfl) (fun h => (List.mem_append.mp h).elim (fun h => (List.mem_append.mp h).elim (fun h => ggX9_one_X9_board_1 w h) (fun h => ggX9_one_X9_board_2 w h)) (fun h => ggX9_one_X9_board_3 w h))
set_option maxRecDepth 20000 in
theorem ggX9_one_X9_board : GoodIn wsX9_one wsX9_board := goodIn_sub ggX9_one_X9_board_m (by decide +kernel)
set_option maxRecDepth 20000 in
theorem ggX9_one_X9_act_1 : ∀ w ∈ (wsX9_act_r1 : List Cond), w ∈ wsX9_one := List.forall_mem_cons.mpr ⟨List.mem_of_getElem? (i := 2) rfl, List.forall_mem_cons.mpr ⟨List.mem_of_getElem? (i := 16) rfl, List.forall_mem_cons.mpr ⟨List.mem_of_getElem? (i := 107) rfl, List.forall_mem_cons.mpr ⟨List.mem_of_getElem? (i := 46) rfl, List.forall_mem_cons.mpr ⟨List.mem_of_getElem? (i := 44) rfl, List.forall_mem_cons.mpr ⟨List.mem_of_getElem? (i := 108) rfl, List.forall_mem_cons.mpr ⟨List.mem_of_getElem? (i := 109) rfl, List.forall_mem_cons.mpr ⟨List.mem_of_getElem? (i := 110) rfl, List.forall_mem_cons.mpr ⟨List.mem_of_getElem? (i := 8) rfl, List.forall_mem_cons.mpr ⟨List.mem_of_getElem? (i := 111) rfl, List.forall_mem_cons.mpr ⟨List.mem_of_getElem? (i := 17) rfl, List.forall_mem_cons.mpr ⟨List.mem_of_getElem? (i := 18) rfl, List.forall_mem_cons.mpr ⟨List.mem_of_getElem? (i := 64) rfl, List.forall_mem_cons.mpr ⟨List.mem_of_getElem? (i := 112) rfl, List.forall_mem_cons.mpr ⟨List.mem_of_getElem? (i := 113) rfl, List.forall_mem_cons.mpr ⟨List.mem_of_getElem? (i := 114) rfl, List.forall_mem_cons.mpr ⟨List.mem_of_getElem? (i := 115) rfl, List.forall_mem_cons.mpr ⟨List.mem_of_getElem? (i := 116) rfl, List.forall_mem_cons.mpr ⟨List.mem_of_getElem? (i := 117) rfl, List.forall_mem_cons.mpr ⟨List.mem_of_getElem? (i := 118) rfl, List.forall_mem_cons.mpr ⟨List.mem_of_getElem? (i := 119) rfl, List.forall_mem_cons.mpr ⟨List.mem_of_getElem? (i := 120) rfl, List.forall_mem_cons.mpr ⟨List.mem_of_getElem? (i := 121) rfl, List.forall_mem_cons.mpr ⟨List.mem_of_getElem? (i := 122) rfl, fun _ h => nomatch h⟩⟩⟩⟩⟩⟩⟩⟩⟩⟩⟩⟩⟩⟩⟩⟩⟩⟩⟩⟩⟩⟩⟩⟩
set_option maxRecDepth 20000 in
theorem ggX9_one_X9_act_2 : ∀ w ∈ (wsX9_act_r2 : List Cond), w ∈ wsX9_one := List.forall_mem_cons.mpr ⟨List.mem_of_getElem? (i := 123) rfl, List.forall_mem_cons.mpr ⟨List.mem_of_getElem? (i := 124) rfl, List.forall_mem_cons.mpr ⟨List.mem_of_getElem? (i := 125) rfl, List.forall_mem_cons.mpr ⟨List.mem_of_getElem? (i := 126) rfl, List.forall_mem_cons.mpr ⟨List.mem_of_getElem? (i := 127) rfl, List.forall_mem_cons.mpr ⟨List.mem_of_getElem? (i := 128) rfl, List.forall_mem_cons.mpr ⟨List.mem_of_getElem? (i := 74) rfl, List.forall_mem_cons.mpr ⟨List.mem_of_getElem? (i := 75) rfl, List.forall_mem_cons.mpr ⟨List.mem_of_getElem? (i := 76) rfl, List.forall_mem_cons.mpr ⟨List.mem_of_getElem? (i := 129) rfl, List.forall_mem_cons.mpr ⟨List.mem_of_getElem? (i := 130) rfl, List.forall_mem_cons.mpr ⟨List.mem_of_getElem? (i := 131) rfl, List.forall_mem_cons.mpr ⟨List.mem_of_getElem? (i := 132) rfl, List.forall_mem_cons.mpr ⟨List.mem_of_getElem? (i := 133) rfl, List.forall_mem_cons.mpr ⟨List.mem_of_getElem? (i := 134) rfl, List.forall_mem_cons.mpr ⟨List.mem_of_getElem? (i := 135) rfl, List.forall_mem_cons.mpr ⟨List.mem_of_getElem? (i := 45) rfl, List.forall_mem_cons.mpr ⟨List.mem_of_getElem? (i := 136) rfl, List.forall_mem_cons.mpr ⟨List.mem_of_getElem? (i := 137) rfl, List.forall_mem_cons.mpr ⟨List.mem_of_getElem? (i := 138) rfl, List.forall_mem_cons.mpr ⟨List.mem_of_getElem? (i := 139) rfl, List.forall_mem_cons.mpr ⟨List.mem_of_getElem? (i := 20) rfl, List.forall_mem_cons.mpr ⟨List.mem_of_getElem? (i := 140) rfl, List.forall_mem_cons.mpr ⟨List.mem_of_getElem? (i := 141) rfl, fun _ h => nomatch h⟩⟩⟩⟩⟩⟩⟩⟩⟩⟩⟩⟩⟩⟩⟩⟩⟩⟩⟩⟩⟩⟩⟩⟩
set_option maxRecDepth 20000 in
theorem ggX9_one_X9_act_3 : ∀ w ∈ (wsX9_act_r3 : List Cond), w ∈ wsX9_one := List.forall_mem_cons.mpr ⟨List.mem_of_getElem? (i := 142) rfl, List.forall_mem_cons.mpr ⟨List.mem_of_getElem? (i := 143) rfl, List.forall_mem_cons.mpr ⟨List.mem_of_getElem? (i := 144) rfl, fun _ h => nomatch h⟩⟩⟩
set_option maxRecDepth 20000 in
theorem ggX9_one_X9_act_4 : ∀ w ∈ wsX90, w ∈ wsX9_one := fun w h => List.mem_cons_of_mem _ (List.mem_append_right _ (h))
theorem ggX9_one_X9_act_m : ∀ w ∈ wsX9_act, w ∈ wsX9_one := fun w h => (List.mem_cons.mp h).elim (fun e => by rw [e]; exact List.mem_of_getElem? (i := 106) rfl) (fun h => (List.mem_append.mp h).elim (fun h => (List.mem_append.mp h).elim (fun h => ggX9_one_X9_act_1 w h) (fun h => (List.mem_append.mp h).elim (fun h => ggX9_one_X9_act_2 w h) (fun h => ggX9_one_X9_act_3 w h))) (fun h => ggX9_one_X9_act_4 w h))
set_option maxRecDepth 20000 in
theorem ggX9_one_X9_act : GoodIn wsX9_one wsX9_act := goodIn_sub ggX9_one_X9_act_m (by decide +kernel)
theorem dX9_one_0 : decode cX9_one 0 = .ok (.aload_n 0, 1) := by decide +kernel
theorem dX9_one_1 : decode cX9_one 1 = .ok (.getfield 50, 3) := by decide +kernel
theorem dX9_one_4 : decode cX9_one 4 = .ok (.ifCond .lt 13, 3) := by decide +kernel
theorem dX9_one_7 : decode cX9_one 7 = .ok (.aload_n 0, 1) := by decide +kernel
theorem dX9_one_8 : decode cX9_one 8 = .ok (.getfield 50, 3) := by decide +kernel
theorem dX9_one_11 : decode cX9_one 11 = .ok (.sipush 512, 3) := by decide +kernel
theorem dX9_one_14 : decode cX9_one 14 = .ok (.if_icmp .lt 10, 3) := by decide +kernel
theorem dX9_one_17 : decode cX9_one 17 = .ok (.aload_n 0, 1) := by decide +kernel
theorem dX9_one_18 : decode cX9_one 18 = .ok (.iconst 2, 1) := by decide +kernel
theorem dX9_one_19 : decode cX9_one 19 = .ok (.invokevirtual 189, 3) := by decide +kernel
theorem dX9_one_22 : decode cX9_one 22 = .ok (.iconst 0, 1) := by decide +kernel
theorem dX9_one_23 : decode cX9_one 23 = .ok (.ireturn, 1) := by decide +kernel
theorem dX9_one_24 : decode cX9_one 24 = .ok (.aload_n 0, 1) := by decide +kernel
theorem dX9_one_25 : decode cX9_one 25 = .ok (.invokevirtual 192, 3) := by decide +kernel
theorem dX9_one_28 : decode cX9_one 28 = .ok (.aload_n 0, 1) := by decide +kernel
theorem dX9_one_29 : decode cX9_one 29 = .ok (.getfield 68, 3) := by decide +kernel
theorem dX9_one_32 : decode cX9_one 32 = .ok (.ifCond .eq 10, 3) := by decide +kernel
theorem dX9_one_35 : decode cX9_one 35 = .ok (.aload_n 0, 1) := by decide +kernel
theorem dX9_one_36 : decode cX9_one 36 = .ok (.invokevirtual 195, 3) := by decide +kernel
theorem dX9_one_39 : decode cX9_one 39 = .ok (.ifCond .eq 21, 3) := by decide +kernel
theorem dX9_one_42 : decode cX9_one 42 = .ok (.aload_n 0, 1) := by decide +kernel
theorem dX9_one_43 : decode cX9_one 43 = .ok (.aload_n 0, 1) := by decide +kernel
theorem dX9_one_44 : decode cX9_one 44 = .ok (.getfield 68, 3) := by decide +kernel
theorem dX9_one_47 : decode cX9_one 47 = .ok (.ifCond .ne 7, 3) := by decide +kernel
theorem dX9_one_50 : decode cX9_one 50 = .ok (.iconst 0, 1) := by decide +kernel
theorem dX9_one_51 : decode cX9_one 51 = .ok (.goto 4, 3) := by decide +kernel
theorem dX9_one_54 : decode cX9_one 54 = .ok (.iconst 1, 1) := by decide +kernel
theorem dX9_one_55 : decode cX9_one 55 = .ok (.invokevirtual 189, 3) := by decide +kernel
theorem dX9_one_58 : decode cX9_one 58 = .ok (.iconst 0, 1) := by decide +kernel
theorem dX9_one_59 : decode cX9_one 59 = .ok (.ireturn, 1) := by decide +kernel
theorem dX9_one_60 : decode cX9_one 60 = .ok (.aload_n 0, 1) := by decide +kernel
theorem dX9_one_61 : decode cX9_one 61 = .ok (.getfield 68, 3) := by decide +kernel
theorem dX9_one_64 : decode cX9_one 64 = .ok (.bipush 8, 2) := by decide +kernel
theorem dX9_one_66 : decode cX9_one 66 = .ok (.if_icmp .ge 10, 3) := by decide +kernel
theorem dX9_one_69 : decode cX9_one 69 = .ok (.aload_n 0, 1) := by decide +kernel
theorem dX9_one_70 : decode cX9_one 70 = .ok (.invokevirtual 198, 3) := by decide +kernel
theorem dX9_one_73 : decode cX9_one 73 = .ok (.goto 60, 3) := by decide +kernel
theorem dX9_one_76 : decode cX9_one 76 = .ok (.aload_n 0, 1) := by decide +kernel
theorem dX9_one_77 : decode cX9_one 77 = .ok (.getfield 68, 3) := by decide +kernel
theorem dX9_one_80 : decode cX9_one 80 = .ok (.bipush 38, 2) := by decide +kernel
theorem dX9_one_82 : decode cX9_one 82 = .ok (.if_icmp .ne 35, 3) := by decide +kernel
theorem dX9_one_85 : decode cX9_one 85 = .ok (.aload_n 0, 1) := by decide +kernel
theorem dX9_one_86 : decode cX9_one 86 = .ok (.aload_n 0, 1) := by decide +kernel
theorem dX9_one_87 : decode cX9_one 87 = .ok (.getfield 167, 3) := by decide +kernel
theorem dX9_one_90 : decode cX9_one 90 = .ok (.aload_n 0, 1) := by decide +kernel
theorem dX9_one_91 : decode cX9_one 91 = .ok (.getfield 152, 3) := by decide +kernel
theorem dX9_one_94 : decode cX9_one 94 = .ok (.invokestatic 144, 3) := by decide +kernel
theorem dX9_one_97 : decode cX9_one 97 = .ok (.putfield 167, 3) := by decide +kernel
theorem dX9_one_100 : decode cX9_one 100 = .ok (.aload_n 0, 1) := by decide +kernel
theorem dX9_one_101 : decode cX9_one 101 = .ok (.dup, 1) := by decide +kernel
theorem dX9_one_102 : decode cX9_one 102 = .ok (.getfield 152, 3) := by decide +kernel
theorem dX9_one_105 : decode cX9_one 105 = .ok (.lconst 1, 1) := by decide +kernel
theorem dX9_one_106 : decode cX9_one 106 = .ok (.ladd, 1) := by decide +kernel
theorem dX9_one_107 : decode cX9_one 107 = .ok (.putfield 152, 3) := by decide +kernel
theorem dX9_one_110 : decode cX9_one 110 = .ok (.aload_n 0, 1) := by decide +kernel
theorem dX9_one_111 : decode cX9_one 111 = .ok (.invokevirtual 184, 3) := by decide +kernel
theorem dX9_one_114 : decode cX9_one 114 = .ok (.goto 19, 3) := by decide +kernel
theorem dX9_one_117 : decode cX9_one 117 = .ok (.aload_n 0, 1) := by decide +kernel
theorem dX9_one_118 : decode cX9_one 118 = .ok (.invokevirtual 201, 3) := by decide +kernel
theorem dX9_one_121 : decode cX9_one 121 = .ok (.aload_n 0, 1) := by decide +kernel
theorem dX9_one_122 : decode cX9_one 122 = .ok (.invokevirtual 204, 3) := by decide +kernel
theorem dX9_one_125 : decode cX9_one 125 = .ok (.aload_n 0, 1) := by decide +kernel
theorem dX9_one_126 : decode cX9_one 126 = .ok (.invokevirtual 207, 3) := by decide +kernel
theorem dX9_one_129 : decode cX9_one 129 = .ok (.aload_n 0, 1) := by decide +kernel
theorem dX9_one_130 : decode cX9_one 130 = .ok (.invokevirtual 184, 3) := by decide +kernel
theorem dX9_one_133 : decode cX9_one 133 = .ok (.aload_n 0, 1) := by decide +kernel
theorem dX9_one_134 : decode cX9_one 134 = .ok (.getfield 50, 3) := by decide +kernel
theorem dX9_one_137 : decode cX9_one 137 = .ok (.sipush 512, 3) := by decide +kernel
theorem dX9_one_140 : decode cX9_one 140 = .ok (.if_icmp .lt 8, 3) := by decide +kernel
theorem dX9_one_143 : decode cX9_one 143 = .ok (.aload_n 0, 1) := by decide +kernel
theorem dX9_one_144 : decode cX9_one 144 = .ok (.iconst 2, 1) := by decide +kernel
theorem dX9_one_145 : decode cX9_one 145 = .ok (.invokevirtual 189, 3) := by decide +kernel
theorem dX9_one_148 : decode cX9_one 148 = .ok (.iconst 1, 1) := by decide +kernel
theorem dX9_one_149 : decode cX9_one 149 = .ok (.ireturn, 1) := by decide +kernel
set_option maxRecDepth 20000 in
theorem ggX9_run_X9_one_1 : ∀ w ∈ (wsX9_one_r1 : List Cond), w ∈ wsX9_run := List.forall_mem_cons.mpr ⟨List.mem_of_getElem? (i := 17) rfl, List.forall_mem_cons.mpr ⟨List.mem_of_getElem? (i := 18) rfl, List.forall_mem_cons.mpr ⟨List.mem_of_getElem? (i := 9) rfl, List.forall_mem_cons.mpr ⟨List.mem_of_getElem? (i := 8) rfl, List.forall_mem_cons.mpr ⟨List.mem_of_getElem? (i := 19) rfl, List.forall_mem_cons.mpr ⟨List.mem_of_getElem? (i := 20) rfl, List.forall_mem_cons.mpr ⟨List.mem_of_getElem? (i := 21) rfl, List.forall_mem_cons.mpr ⟨List.mem_of_getElem? (i := 15) rfl, List.forall_mem_cons.mpr ⟨List.mem_of_getElem? (i := 22) rfl, List.forall_mem_cons.mpr ⟨List.mem_of_getElem? (i := 10) rfl, List.forall_mem_cons.mpr ⟨List.mem_of_getElem? (i := 23) rfl, List.forall_mem_cons.mpr ⟨List.mem_of_getElem? (i := 24) rfl, List.forall_mem_cons.mpr ⟨List.mem_of_getElem? (i := 25) rfl, List.forall_mem_cons.mpr ⟨List.mem_of_getElem? (i := 26) rfl, List.forall_mem_cons.mpr ⟨List.mem_of_getElem? (i := 27) rfl, List.forall_mem_cons.mpr ⟨List.mem_of_getElem? (i := 28) rfl, List.forall_mem_cons.mpr ⟨List.mem_of_getElem? (i := 29) rfl, List.forall_mem_cons.mpr ⟨List.mem_of_getElem? (i := 30) rfl, List.forall_mem_cons.mpr ⟨List.mem_of_getElem? (i := 31) rfl, List.forall_mem_cons.mpr ⟨List.mem_of_getElem? (i := 32) rfl, List.forall_mem_cons.mpr ⟨List.mem_of_getElem? (i := 33) rfl, List.forall_mem_cons.mpr ⟨List.mem_of_getElem? (i := 34) rfl, List.forall_mem_cons.mpr ⟨List.mem_of_getElem? (i := 35) rfl, List.forall_mem_cons.mpr ⟨List.mem_of_getElem? (i := 36) rfl, fun _ h => nomatch h⟩⟩⟩⟩⟩⟩⟩⟩⟩⟩⟩⟩⟩⟩⟩⟩⟩⟩⟩⟩⟩⟩⟩⟩
set_option maxRecDepth 20000 in
theorem ggX9_run_X9_one_2 : ∀ w ∈ (wsX9_one_r2 : List Cond), w ∈ wsX9_run := List.forall_mem_cons.mpr ⟨List.mem_of_getElem? (i := 2) rfl, List.forall_mem_cons.mpr ⟨List.mem_of_getElem? (i := 37) rfl, List.forall_mem_cons.mpr ⟨List.mem_of_getElem? (i := 38) rfl, List.forall_mem_cons.mpr ⟨List.mem_of_getElem? (i := 39) rfl, List.forall_mem_cons.mpr ⟨List.mem_of_getElem? (i := 40) rfl, List.forall_mem_cons.mpr ⟨List.mem_of_getElem? (i := 41) rfl, List.forall_mem_cons.mpr ⟨List.mem_of_getElem? (i := 42) rfl, List.forall_mem_cons.mpr ⟨List.mem_of_getElem? (i := 43) rfl, List.forall_mem_cons.mpr ⟨List.mem_of_getElem? (i := 44) rfl, List.forall_mem_cons.mpr ⟨List.mem_of_getElem? (i := 45) rfl, List.forall_mem_cons.mpr ⟨List.mem_of_getElem? (i := 46) rfl, List.forall_mem_cons.mpr ⟨List.mem_of_getElem? (i := 47) rfl, List.forall_mem_cons.mpr ⟨List.mem_of_getElem? (i := 48) rfl, List.forall_mem_cons.mpr ⟨List.mem_of_getElem? (i := 49) rfl, List.forall_mem_cons.mpr ⟨List.mem_of_getElem? (i := 7) rfl, List.forall_mem_cons.mpr ⟨List.mem_of_getElem? (i := 50) rfl, List.forall_mem_cons.mpr ⟨List.mem_of_getElem? (i := 51) rfl, List.forall_mem_cons.mpr ⟨List.mem_of_getElem? (i := 52) rfl, List.forall_mem_cons.mpr ⟨List.mem_of_getElem? (i := 53) rfl, List.forall_mem_cons.mpr ⟨List.mem_of_getElem? (i := 54) rfl, List.forall_mem_cons.mpr ⟨List.mem_of_getElem? (i := 55) rfl, List.forall_mem_cons.mpr ⟨List.mem_of_getElem? (i := 3) rfl, List.forall_mem_cons.mpr ⟨List.mem_of_getElem? (i := 56) rfl, List.forall_mem_cons.mpr ⟨List.mem_of_getElem? (i := 57) rfl, fun _ h => nomatch h⟩⟩⟩⟩⟩⟩⟩⟩⟩⟩⟩⟩⟩⟩⟩⟩⟩⟩⟩⟩⟩⟩⟩⟩
set_option maxRecDepth 20000 in
theorem ggX9_run_X9_one_3 : ∀ w ∈ (wsX9_one_r3 : List Cond), w ∈ wsX9_run := List.forall_mem_cons.mpr ⟨List.mem_of_getElem? (i := 58) rfl, List.forall_mem_cons.mpr ⟨List.mem_of_getElem? (i := 59) rfl, List.forall_mem_cons.mpr ⟨List.mem_of_getElem? (i := 60) rfl, List.forall_mem_cons.mpr ⟨List.mem_of_getElem? (i := 61) rfl, List.forall_mem_cons.mpr ⟨List.mem_of_getElem? (i := 62) rfl, List.forall_mem_cons.mpr ⟨List.mem_of_getElem? (i := 63) rfl, List.forall_mem_cons.mpr ⟨List.mem_of_getElem? (i := 64) rfl, List.forall_mem_cons.mpr ⟨List.mem_of_getElem? (i := 4) rfl, List.forall_mem_cons.mpr ⟨List.mem_of_getElem? (i := 65) rfl, List.forall_mem_cons.mpr ⟨List.mem_of_getElem? (i := 66) rfl, List.forall_mem_cons.mpr ⟨List.mem_of_getElem? (i := 67) rfl, List.forall_mem_cons.mpr ⟨List.mem_of_getElem? (i := 68) rfl, List.forall_mem_cons.mpr ⟨List.mem_of_getElem? (i := 69) rfl, List.forall_mem_cons.mpr ⟨List.mem_of_getElem? (i := 70) rfl, List.forall_mem_cons.mpr ⟨List.mem_of_getElem? (i := 71) rfl, List.forall_mem_cons.mpr ⟨List.mem_of_getElem? (i := 72) rfl, List.forall_mem_cons.mpr ⟨List.mem_of_getElem? (i := 73) rfl, List.forall_mem_cons.mpr ⟨List.mem_of_getElem? (i := 74) rfl, List.forall_mem_cons.mpr ⟨List.mem_of_getElem? (i := 75) rfl, List.forall_mem_cons.mpr ⟨List.mem_of_getElem? (i := 76) rfl, List.forall_mem_cons.mpr ⟨List.mem_of_getElem? (i := 77) rfl, List.forall_mem_cons.mpr ⟨List.mem_of_getElem? (i := 78) rfl, List.forall_mem_cons.mpr ⟨List.mem_of_getElem? (i := 79) rfl, List.forall_mem_cons.mpr ⟨List.mem_of_getElem? (i := 80) rfl, fun _ h => nomatch h⟩⟩⟩⟩⟩⟩⟩⟩⟩⟩⟩⟩⟩⟩⟩⟩⟩⟩⟩⟩⟩⟩⟩⟩
set_option maxRecDepth 20000 in
theorem ggX9_run_X9_one_4 : ∀ w ∈ (wsX9_one_r4 : List Cond), w ∈ wsX9_run := List.forall_mem_cons.mpr ⟨List.mem_of_getElem? (i := 81) rfl, List.forall_mem_cons.mpr ⟨List.mem_of_getElem? (i := 82) rfl, List.forall_mem_cons.mpr ⟨List.mem_of_getElem? (i := 83) rfl, List.forall_mem_cons.mpr ⟨List.mem_of_getElem? (i := 84) rfl, List.forall_mem_cons.mpr ⟨List.mem_of_getElem? (i := 85) rfl, List.forall_mem_cons.mpr ⟨List.mem_of_getElem? (i := 86) rfl, List.forall_mem_cons.mpr ⟨List.mem_of_getElem? (i := 87) rfl, List.forall_mem_cons.mpr ⟨List.mem_of_getElem? (i := 88) rfl, List.forall_mem_cons.mpr ⟨List.mem_of_getElem? (i := 89) rfl, List.forall_mem_cons.mpr ⟨List.mem_of_getElem? (i := 90) rfl, List.forall_mem_cons.mpr ⟨List.mem_of_getElem? (i := 91) rfl, List.forall_mem_cons.mpr ⟨List.mem_of_getElem? (i := 92) rfl, List.forall_mem_cons.mpr ⟨List.mem_of_getElem? (i := 93) rfl, List.forall_mem_cons.mpr ⟨List.mem_of_getElem? (i := 94) rfl, List.forall_mem_cons.mpr ⟨List.mem_of_getElem? (i := 95) rfl, List.forall_mem_cons.mpr ⟨List.mem_of_getElem? (i := 96) rfl, List.forall_mem_cons.mpr ⟨List.mem_of_getElem? (i := 97) rfl, List.forall_mem_cons.mpr ⟨List.mem_of_getElem? (i := 98) rfl, List.forall_mem_cons.mpr ⟨List.mem_of_getElem? (i := 99) rfl, List.forall_mem_cons.mpr ⟨List.mem_of_getElem? (i := 100) rfl, List.forall_mem_cons.mpr ⟨List.mem_of_getElem? (i := 101) rfl, List.forall_mem_cons.mpr ⟨List.mem_of_getElem? (i := 6) rfl, List.forall_mem_cons.mpr ⟨List.mem_of_getElem? (i := 102) rfl, List.forall_mem_cons.mpr ⟨List.mem_of_getElem? (i := 5) rfl, fun _ h => nomatch h⟩⟩⟩⟩⟩⟩⟩⟩⟩⟩⟩⟩⟩⟩⟩⟩⟩⟩⟩⟩⟩⟩⟩⟩
set_option maxRecDepth 20000 in
theorem ggX9_run_X9_one_5 : ∀ w ∈ (wsX9_one_r5 : List Cond), w ∈ wsX9_run := List.forall_mem_cons.mpr ⟨List.mem_of_getElem? (i := 103) rfl, List.forall_mem_cons.mpr ⟨List.mem_of_getElem? (i := 104) rfl, List.forall_mem_cons.mpr ⟨List.mem_of_getElem? (i := 105) rfl, List.forall_mem_cons.mpr ⟨List.mem_of_getElem? (i := 106) rfl, List.forall_mem_cons.mpr ⟨List.mem_of_getElem? (i := 107) rfl, List.forall_mem_cons.mpr ⟨List.mem_of_getElem? (i := 108) rfl, List.forall_mem_cons.mpr ⟨List.mem_of_getElem? (i := 109) rfl, List.forall_mem_cons.mpr ⟨List.mem_of_getElem? (i := 110) rfl, List.forall_mem_cons.mpr ⟨List.mem_of_getElem? (i := 111) rfl, List.forall_mem_cons.mpr ⟨List.mem_of_getElem? (i := 112) rfl, List.forall_mem_cons.mpr ⟨List.mem_of_getElem? (i := 113) rfl, List.forall_mem_cons.mpr ⟨List.mem_of_getElem? (i := 114) rfl, List.forall_mem_cons.mpr ⟨List.mem_of_getElem? (i := 115) rfl, List.forall_mem_cons.mpr ⟨List.mem_of_getElem? (i := 116) rfl, List.forall_mem_cons.mpr ⟨List.mem_of_getElem? (i := 117) rfl, List.forall_mem_cons.mpr ⟨List.mem_of_getElem? (i := 118) rfl, List.forall_mem_cons.mpr ⟨List.mem_of_getElem? (i := 119) rfl, List.forall_mem_cons.mpr ⟨List.mem_of_getElem? (i := 120) rfl, List.forall_mem_cons.mpr ⟨List.mem_of_getElem? (i := 121) rfl, List.forall_mem_cons.mpr ⟨List.mem_of_getElem? (i := 122) rfl, List.forall_mem_cons.mpr ⟨List.mem_of_getElem? (i := 123) rfl, List.forall_mem_cons.mpr ⟨List.mem_of_getElem? (i := 124) rfl, List.forall_mem_cons.mpr ⟨List.mem_of_getElem? (i := 125) rfl, List.forall_mem_cons.mpr ⟨List.mem_of_getElem? (i := 126) rfl, fun _ h => nomatch h⟩⟩⟩⟩⟩⟩⟩⟩⟩⟩⟩⟩⟩⟩⟩⟩⟩⟩⟩⟩⟩⟩⟩⟩
set_option maxRecDepth 20000 in
theorem ggX9_run_X9_one_6 : ∀ w ∈ (wsX9_one_r6 : List Cond), w ∈ wsX9_run := List.forall_mem_cons.mpr ⟨List.mem_of_getElem? (i := 127) rfl, List.forall_mem_cons.mpr ⟨List.mem_of_getElem? (i := 128) rfl, List.forall_mem_cons.mpr ⟨List.mem_of_getElem? (i := 129) rfl, List.forall_mem_cons.mpr ⟨List.mem_of_getElem? (i := 130) rfl, List.forall_mem_cons.mpr ⟨List.mem_of_getElem? (i := 131) rfl, List.forall_mem_cons.mpr ⟨List.mem_of_getElem? (i := 132) rfl, List.forall_mem_cons.mpr ⟨List.mem_of_getElem? (i := 133) rfl, List.forall_mem_cons.mpr ⟨List.mem_of_getElem? (i := 134) rfl, List.forall_mem_cons.mpr ⟨List.mem_of_getElem? (i := 135) rfl, List.forall_mem_cons.mpr ⟨List.mem_of_getElem? (i := 136) rfl, List.forall_mem_cons.mpr ⟨List.mem_of_getElem? (i := 137) rfl, List.forall_mem_cons.mpr ⟨List.mem_of_getElem? (i := 138) rfl, List.forall_mem_cons.mpr ⟨List.mem_of_getElem? (i := 139) rfl, List.forall_mem_cons.mpr ⟨List.mem_of_getElem? (i := 140) rfl, List.forall_mem_cons.mpr ⟨List.mem_of_getElem? (i := 141) rfl, List.forall_mem_cons.mpr ⟨List.mem_of_getElem? (i := 142) rfl, List.forall_mem_cons.mpr ⟨List.mem_of_getElem? (i := 143) rfl, List.forall_mem_cons.mpr ⟨List.mem_of_getElem? (i := 144) rfl, List.forall_mem_cons.mpr ⟨List.mem_of_getElem? (i := 145) rfl, List.forall_mem_cons.mpr ⟨List.mem_of_getElem? (i := 146) rfl, List.forall_mem_cons.mpr ⟨List.mem_of_getElem? (i := 147) rfl, List.forall_mem_cons.mpr ⟨List.mem_of_getElem? (i := 148) rfl, List.forall_mem_cons.mpr ⟨List.mem_of_getElem? (i := 149) rfl, List.forall_mem_cons.mpr ⟨List.mem_of_getElem? (i := 150) rfl, fun _ h => nomatch h⟩⟩⟩⟩⟩⟩⟩⟩⟩⟩⟩⟩⟩⟩⟩⟩⟩⟩⟩⟩⟩⟩⟩⟩
set_option maxRecDepth 20000 in
theorem ggX9_run_X9_one_7 : ∀ w ∈ wsX90, w ∈ wsX9_run := fun w h => List.mem_cons_of_mem _ (List.mem_append_right _ (h))
theorem ggX9_run_X9_one_m : ∀ w ∈ wsX9_one, w ∈ wsX9_run := fun w h => (List.mem_cons.mp h).elim (fun e => by rw [e]; exact List.mem_of_getElem? (i := 16) rfl) (fun h => (List.mem_append.mp h).elim (fun h => (List.mem_append.mp h).elim (fun h => ggX9_run_X9_one_1 w h) (fun h => (List.mem_append.mp h).elim (fun h => ggX9_run_X9_one_2 w h) (fun h => (List.mem_append.mp h).elim (fun h => ggX9_run_X9_one_3 w h) (fun h => (List.mem_append.mp h).elim (fun h => ggX9_run_X9_one_4 w h) (fun h => (List.mem_append.mp h).elim (fun h => ggX9_run_X9_one_5 w h) (fun h => ggX9_run_X9_one_6 w h)))))) (fun h => ggX9_run_X9_one_7 w h))
set_option maxRecDepth 20000 in
theorem ggX9_run_X9_one : GoodIn wsX9_run wsX9_one := goodIn_sub ggX9_run_X9_one_m (by decide +kernel)
theorem dX9_run_0 : decode cX9_run 0 = .ok (.aload_n 0, 1) := by decide +kernel
theorem dX9_run_1 : decode cX9_run 1 = .ok (.iload_n 1, 1) := by decide +kernel
theorem dX9_run_2 : decode cX9_run 2 = .ok (.ifCond .lt 10, 3) := by decide +kernel
theorem dX9_run_5 : decode cX9_run 5 = .ok (.iload_n 1, 1) := by decide +kernel
theorem dX9_run_6 : decode cX9_run 6 = .ok (.sipush 2000, 3) := by decide +kernel
theorem dX9_run_9 : decode cX9_run 9 = .ok (.if_icmp .le 7, 3) := by decide +kernel
theorem dX9_run_12 : decode cX9_run 12 = .ok (.iconst 1, 1) := by decide +kernel
theorem dX9_run_13 : decode cX9_run 13 = .ok (.goto 4, 3) := by decide +kernel
theorem dX9_run_16 : decode cX9_run 16 = .ok (.iconst 0, 1) := by decide +kernel
theorem dX9_run_17 : decode cX9_run 17 = .ok (.putfield 39, 3) := by decide +kernel
theorem dX9_run_20 : decode cX9_run 20 = .ok (.aload_n 0, 1) := by decide +kernel
theorem dX9_run_21 : decode cX9_run 21 = .ok (.getfield 39, 3) := by decide +kernel
theorem dX9_run_24 : decode cX9_run 24 = .ok (.ifCond .le 5, 3) := by decide +kernel
theorem dX9_run_27 : decode cX9_run 27 = .ok (.iconst 0, 1) := by decide +kernel
theorem dX9_run_28 : decode cX9_run 28 = .ok (.ireturn, 1) := by decide +kernel
theorem dX9_run_29 : decode cX9_run 29 = .ok (.iconst 0, 1) := by decide +kernel
theorem dX9_run_30 : decode cX9_run 30 = .ok (.istore_n 2, 1) := by decide +kernel
theorem dX9_run_31 : decode cX9_run 31 = .ok (.iload_n 2, 1) := by decide +kernel
theorem dX9_run_32 : decode cX9_run 32 = .ok (.sipush 512, 3) := by decide +kernel
theorem dX9_run_35 : decode cX9_run 35 = .ok (.if_icmp .ge 21, 3) := by decide +kernel
theorem dX9_run_38 : decode cX9_run 38 = .ok (.aload_n 0, 1) := by decide +kernel
theorem dX9_run_39 : decode cX9_run 39 = .ok (.getfield 13, 3) := by decide +kernel
theorem dX9_run_42 : decode cX9_run 42 = .ok (.iload_n 2, 1) := by decide +kernel
theorem dX9_run_43 : decode cX9_run 43 = .ok (.aload_n 0, 1) := by decide +kernel
theorem dX9_run_44 : decode cX9_run 44 = .ok (.getfield 7, 3) := by decide +kernel
theorem dX9_run_47 : decode cX9_run 47 = .ok (.iload_n 2, 1) := by decide +kernel
theorem dX9_run_48 : decode cX9_run 48 = .ok (.laload, 1) := by decide +kernel
theorem dX9_run_49 : decode cX9_run 49 = .ok (.lastore, 1) := by decide +kernel
theorem dX9_run_50 : decode cX9_run 50 = .ok (.iinc 2 1, 3) := by decide +kernel
theorem dX9_run_53 : decode cX9_run 53 = .ok (.goto (-22), 3) := by decide +kernel
theorem dX9_run_56 : decode cX9_run 56 = .ok (.iconst 0, 1) := by decide +kernel
theorem dX9_run_57 : decode cX9_run 57 = .ok (.istore_n 2, 1) := by decide +kernel
theorem dX9_run_58 : decode cX9_run 58 = .ok (.iload_n 2, 1) := by decide +kernel
theorem dX9_run_59 : decode cX9_run 59 = .ok (.bipush 24, 2) := by decide +kernel
theorem dX9_run_61 : decode cX9_run 61 = .ok (.if_icmp .ge 23, 3) := by decide +kernel
theorem dX9_run_64 : decode cX9_run 64 = .ok (.aload_n 0, 1) := by decide +kernel
theorem dX9_run_65 : decode cX9_run 65 = .ok (.getfield 30, 3) := by decide +kernel
theorem dX9_run_68 : decode cX9_run 68 = .ok (.iload_n 2, 1) := by decide +kernel
theorem dX9_run_69 : decode cX9_run 69 = .ok (.lconst 0, 1) := by decide +kernel
theorem dX9_run_70 : decode cX9_run 70 = .ok (.lastore, 1) := by decide +kernel
theorem dX9_run_71 : decode cX9_run 71 = .ok (.aload_n 0, 1) := by decide +kernel
theorem dX9_run_72 : decode cX9_run 72 = .ok (.getfield 33, 3) := by decide +kernel
theorem dX9_run_75 : decode cX9_run 75 = .ok (.iload_n 2, 1) := by decide +kernel
theorem dX9_run_76 : decode cX9_run 76 = .ok (.lconst 0, 1) := by decide +kernel
theorem dX9_run_77 : decode cX9_run 77 = .ok (.lastore, 1) := by decide +kernel
theorem dX9_run_78 : decode cX9_run 78 = .ok (.iinc 2 1, 3) := by decide +kernel
theorem dX9_run_81 : decode cX9_run 81 = .ok (.goto (-23), 3) := by decide +kernel
theorem dX9_run_84 : decode cX9_run 84 = .ok (.iconst 0, 1) := by decide +kernel
theorem dX9_run_85 : decode cX9_run 85 = .ok (.istore_n 2, 1) := by decide +kernel
theorem dX9_run_86 : decode cX9_run 86 = .ok (.iload_n 2, 1) := by decide +kernel
theorem dX9_run_87 : decode cX9_run 87 = .ok (.bipush 6, 2) := by decide +kernel
theorem dX9_run_89 : decode cX9_run 89 = .ok (.if_icmp .ge 16, 3) := by decide +kernel
theorem dX9_run_92 : decode cX9_run 92 = .ok (.aload_n 0, 1) := by decide +kernel
theorem dX9_run_93 : decode cX9_run 93 = .ok (.getfield 36, 3) := by decide +kernel
theorem dX9_run_96 : decode cX9_run 96 = .ok (.iload_n 2, 1) := by decide +kernel
theorem dX9_run_97 : decode cX9_run 97 = .ok (.lconst 0, 1) := by decide +kernel
theorem dX9_run_98 : decode cX9_run 98 = .ok (.lastore, 1) := by decide +kernel
theorem dX9_run_99 : decode cX9_run 99 = .ok (.iinc 2 1, 3) := by decide +kernel
theorem dX9_run_102 : decode cX9_run 102 = .ok (.goto (-16), 3) := by decide +kernel
theorem dX9_run_105 : decode cX9_run 105 = .ok (.aload_n 0, 1) := by decide +kernel
theorem dX9_run_106 : decode cX9_run 106 = .ok (.lconst 0, 1) := by decide +kernel
theorem dX9_run_107 : decode cX9_run 107 = .ok (.putfield 164, 3) := by decide +kernel
theorem dX9_run_110 : decode cX9_run 110 = .ok (.aload_n 0, 1) := by decide +kernel
theorem dX9_run_111 : decode cX9_run 111 = .ok (.lconst 1, 1) := by decide +kernel
theorem dX9_run_112 : decode cX9_run 112 = .ok (.putfield 152, 3) := by decide +kernel
theorem dX9_run_115 : decode cX9_run 115 = .ok (.aload_n 0, 1) := by decide +kernel
theorem dX9_run_116 : decode cX9_run 116 = .ok (.lconst 0, 1) := by decide +kernel
theorem dX9_run_117 : decode cX9_run 117 = .ok (.putfield 167, 3) := by decide +kernel
theorem dX9_run_120 : decode cX9_run 120 = .ok (.iconst 0, 1) := by decide +kernel
theorem dX9_run_121 : decode cX9_run 121 = .ok (.istore_n 2, 1) := by decide +kernel
theorem dX9_run_122 : decode cX9_run 122 = .ok (.iload_n 2, 1) := by decide +kernel
theorem dX9_run_123 : decode cX9_run 123 = .ok (.iload_n 1, 1) := by decide +kernel
theorem dX9_run_124 : decode cX9_run 124 = .ok (.if_icmp .ge 24, 3) := by decide +kernel
theorem dX9_run_127 : decode cX9_run 127 = .ok (.aload_n 0, 1) := by decide +kernel
theorem dX9_run_128 : decode cX9_run 128 = .ok (.getfield 19, 3) := by decide +kernel
theorem dX9_run_131 : decode cX9_run 131 = .ok (.iconst 3, 1) := by decide +kernel
theorem dX9_run_132 : decode cX9_run 132 = .ok (.if_icmp .ne 16, 3) := by decide +kernel
theorem dX9_run_135 : decode cX9_run 135 = .ok (.aload_n 0, 1) := by decide +kernel
theorem dX9_run_136 : decode cX9_run 136 = .ok (.invokevirtual 210, 3) := by decide +kernel
theorem dX9_run_139 : decode cX9_run 139 = .ok (.ifCond .eq 9, 3) := by decide +kernel
theorem dX9_run_142 : decode cX9_run 142 = .ok (.iinc 2 1, 3) := by decide +kernel
theorem dX9_run_145 : decode cX9_run 145 = .ok (.goto (-23), 3) := by decide +kernel
theorem dX9_run_148 : decode cX9_run 148 = .ok (.aload_n 0, 1) := by decide +kernel
theorem dX9_run_149 : decode cX9_run 149 = .ok (.aload_n 0, 1) := by decide +kernel
theorem dX9_run_150 : decode cX9_run 150 = .ok (.getfield 213, 3) := by decide +kernel
theorem dX9_run_153 : decode cX9_run 153 = .ok (.aload_n 0, 1) := by decide +kernel
theorem dX9_run_154 : decode cX9_run 154 = .ok (.getfield 167, 3) := by decide +kernel
theorem dX9_run_157 : decode cX9_run 157 = .ok (.ladd, 1) := by decide +kernel
theorem dX9_run_158 : decode cX9_run 158 = .ok (.putfield 213, 3) := by decide +kernel
theorem dX9_run_161 : decode cX9_run 161 = .ok (.iload_n 2, 1) := by decide +kernel
theorem dX9_run_162 : decode cX9_run 162 = .ok (.ireturn, 1) := by decide +kernel
theorem dX9_stopped_0 : decode cX9_stopped 0 = .ok (.aload_n 0, 1) := by decide +kernel
theorem dX9_stopped_1 : decode cX9_stopped 1 = .ok (.iconst 0, 1) := by decide +kernel
theorem dX9_stopped_2 : decode cX9_stopped 2 = .ok (.putfield 39, 3) := by decide +kernel
theorem dX9_stopped_5 : decode cX9_stopped 5 = .ok (.aload_n 0, 1) := by decide +kernel
theorem dX9_stopped_6 : decode cX9_stopped 6 = .ok (.getfield 19, 3) := by decide +kernel
theorem dX9_stopped_9 : decode cX9_stopped 9 = .ok (.ireturn, 1) := by decide +kernel
theorem dX9_place_0 : decode cX9_place 0 = .ok (.aload_n 0, 1) := by decide +kernel
theorem dX9_place_1 : decode cX9_place 1 = .ok (.iconst 0, 1) := by decide +kernel
theorem dX9_place_2 : decode cX9_place 2 = .ok (.putfield 39, 3) := by decide +kernel
theorem dX9_place_5 : decode cX9_place 5 = .ok (.iconst 4, 1) := by decide +kernel
theorem dX9_place_6 : decode cX9_place 6 = .ok (.aload_n 0, 1) := by decide +kernel
theorem dX9_place_7 : decode cX9_place 7 = .ok (.getfield 50, 3) := by decide +kernel
theorem dX9_place_10 : decode cX9_place 10 = .ok (.imul, 1) := by decide +kernel
theorem dX9_place_11 : decode cX9_place 11 = .ok (.aload_n 0, 1) := by decide +kernel
theorem dX9_place_12 : decode cX9_place 12 = .ok (.getfield 53, 3) := by decide +kernel
theorem dX9_place_15 : decode cX9_place 15 = .ok (.iadd, 1) := by decide +kernel
theorem dX9_place_16 : decode cX9_place 16 = .ok (.ireturn, 1) := by decide +kernel
theorem dX9_cycles_0 : decode cX9_cycles 0 = .ok (.aload_n 0, 1) := by decide +kernel
theorem dX9_cycles_1 : decode cX9_cycles 1 = .ok (.iconst 0, 1) := by decide +kernel
theorem dX9_cycles_2 : decode cX9_cycles 2 = .ok (.putfield 39, 3) := by decide +kernel
theorem dX9_cycles_5 : decode cX9_cycles 5 = .ok (.aload_n 0, 1) := by decide +kernel
theorem dX9_cycles_6 : decode cX9_cycles 6 = .ok (.getfield 213, 3) := by decide +kernel
theorem dX9_cycles_9 : decode cX9_cycles 9 = .ok (.lreturn, 1) := by decide +kernel
theorem dX9_done_0 : decode cX9_done 0 = .ok (.aload_n 0, 1) := by decide +kernel
theorem dX9_done_1 : decode cX9_done 1 = .ok (.iload_n 1, 1) := by decide +kernel
theorem dX9_done_2 : decode cX9_done 2 = .ok (.ifCond .lt 9, 3) := by decide +kernel
theorem dX9_done_5 : decode cX9_done 5 = .ok (.iload_n 1, 1) := by decide +kernel
theorem dX9_done_6 : decode cX9_done 6 = .ok (.bipush 7, 2) := by decide +kernel
theorem dX9_done_8 : decode cX9_done 8 = .ok (.if_icmp .le 7, 3) := by decide +kernel
theorem dX9_done_11 : decode cX9_done 11 = .ok (.iconst 1, 1) := by decide +kernel
theorem dX9_done_12 : decode cX9_done 12 = .ok (.goto 4, 3) := by decide +kernel
theorem dX9_done_15 : decode cX9_done 15 = .ok (.iconst 0, 1) := by decide +kernel
theorem dX9_done_16 : decode cX9_done 16 = .ok (.putfield 39, 3) := by decide +kernel
theorem dX9_done_19 : decode cX9_done 19 = .ok (.aload_n 0, 1) := by decide +kernel
theorem dX9_done_20 : decode cX9_done 20 = .ok (.getfield 39, 3) := by decide +kernel
theorem dX9_done_23 : decode cX9_done 23 = .ok (.ifCond .le 7, 3) := by decide +kernel
theorem dX9_done_26 : decode cX9_done 26 = .ok (.iconst 0, 1) := by decide +kernel
theorem dX9_done_27 : decode cX9_done 27 = .ok (.goto 9, 3) := by decide +kernel
theorem dX9_done_30 : decode cX9_done 30 = .ok (.aload_n 0, 1) := by decide +kernel
theorem dX9_done_31 : decode cX9_done 31 = .ok (.getfield 23, 3) := by decide +kernel
theorem dX9_done_34 : decode cX9_done 34 = .ok (.iload_n 1, 1) := by decide +kernel
theorem dX9_done_35 : decode cX9_done 35 = .ok (.iaload, 1) := by decide +kernel
theorem dX9_done_36 : decode cX9_done 36 = .ok (.ireturn, 1) := by decide +kernel
theorem dX9_waited_0 : decode cX9_waited 0 = .ok (.aload_n 0, 1) := by decide +kernel
theorem dX9_waited_1 : decode cX9_waited 1 = .ok (.iload_n 1, 1) := by decide +kernel
theorem dX9_waited_2 : decode cX9_waited 2 = .ok (.ifCond .lt 8, 3) := by decide +kernel
theorem dX9_waited_5 : decode cX9_waited 5 = .ok (.iload_n 1, 1) := by decide +kernel
theorem dX9_waited_6 : decode cX9_waited 6 = .ok (.iconst 4, 1) := by decide +kernel
theorem dX9_waited_7 : decode cX9_waited 7 = .ok (.if_icmp .le 7, 3) := by decide +kernel
theorem dX9_waited_10 : decode cX9_waited 10 = .ok (.iconst 1, 1) := by decide +kernel
theorem dX9_waited_11 : decode cX9_waited 11 = .ok (.goto 4, 3) := by decide +kernel
theorem dX9_waited_14 : decode cX9_waited 14 = .ok (.iconst 0, 1) := by decide +kernel
theorem dX9_waited_15 : decode cX9_waited 15 = .ok (.putfield 39, 3) := by decide +kernel
theorem dX9_waited_18 : decode cX9_waited 18 = .ok (.aload_n 0, 1) := by decide +kernel
theorem dX9_waited_19 : decode cX9_waited 19 = .ok (.getfield 39, 3) := by decide +kernel
theorem dX9_waited_22 : decode cX9_waited 22 = .ok (.ifCond .le 7, 3) := by decide +kernel
theorem dX9_waited_25 : decode cX9_waited 25 = .ok (.lconst 0, 1) := by decide +kernel
theorem dX9_waited_26 : decode cX9_waited 26 = .ok (.goto 9, 3) := by decide +kernel
theorem dX9_waited_29 : decode cX9_waited 29 = .ok (.aload_n 0, 1) := by decide +kernel
theorem dX9_waited_30 : decode cX9_waited 30 = .ok (.getfield 27, 3) := by decide +kernel
theorem dX9_waited_33 : decode cX9_waited 33 = .ok (.iload_n 1, 1) := by decide +kernel
theorem dX9_waited_34 : decode cX9_waited 34 = .ok (.laload, 1) := by decide +kernel
theorem dX9_waited_35 : decode cX9_waited 35 = .ok (.lreturn, 1) := by decide +kernel
