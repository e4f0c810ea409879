section
-- ===== PART A: goes FIRST, ahead of the names: the tables' words, and 'selects' of the private methods out of them =====
/-- a private method of a class that the tables say can be made, by its rows of tables_1 -/
def lw_okq (q : MethodName × Nat) : Prop := (q.1.cls ≠ "java/lang/invoke/MethodHandle" ∧ q.1.cls ≠ "java/lang/invoke/VarHandle") ∧ Cond.instantiable q.1.cls q.2 ∈ tables_1 ∧ Cond.privateMethod q.1 ∈ tables_1 ∧ Cond.instanceMethod q.1 ∈ tables_1
theorem lw_p0 : lw_okq (⟨"java/lang/Throwable", "fillInStackTrace", "(I)Ljava/lang/Throwable;"⟩, 6) := ⟨⟨by decide +kernel, by decide +kernel⟩, List.mem_of_getElem? (i := 221) (by decide +kernel), List.mem_of_getElem? (i := 219) (by decide +kernel), List.mem_of_getElem? (i := 220) (by decide +kernel)⟩
theorem lw_p1 : lw_okq (⟨"ScoreboardCore", "goOnAt", "(I)V"⟩, 7) := ⟨⟨by decide +kernel, by decide +kernel⟩, List.mem_of_getElem? (i := 21) (by decide +kernel), List.mem_of_getElem? (i := 310) (by decide +kernel), List.mem_of_getElem? (i := 311) (by decide +kernel)⟩
theorem lw_p2 : lw_okq (⟨"ScoreboardCore", "takeNext", "()Z"⟩, 7) := ⟨⟨by decide +kernel, by decide +kernel⟩, List.mem_of_getElem? (i := 21) (by decide +kernel), List.mem_of_getElem? (i := 335) (by decide +kernel), List.mem_of_getElem? (i := 336) (by decide +kernel)⟩
theorem lw_p3 : lw_okq (⟨"ScoreboardCore$Instruction", "listNeeds", "()V"⟩, 9) := ⟨⟨by decide +kernel, by decide +kernel⟩, List.mem_of_getElem? (i := 88) (by decide +kernel), List.mem_of_getElem? (i := 355) (by decide +kernel), List.mem_of_getElem? (i := 356) (by decide +kernel)⟩
theorem lw_p4 : lw_okq (⟨"ScoreboardCore$Instruction", "listLogicNeeds", "()V"⟩, 9) := ⟨⟨by decide +kernel, by decide +kernel⟩, List.mem_of_getElem? (i := 88) (by decide +kernel), List.mem_of_getElem? (i := 359) (by decide +kernel), List.mem_of_getElem? (i := 360) (by decide +kernel)⟩
theorem lw_p5 : lw_okq (⟨"ScoreboardCore$Instruction", "listShiftNeeds", "()V"⟩, 9) := ⟨⟨by decide +kernel, by decide +kernel⟩, List.mem_of_getElem? (i := 88) (by decide +kernel), List.mem_of_getElem? (i := 371) (by decide +kernel), List.mem_of_getElem? (i := 372) (by decide +kernel)⟩
theorem lw_p6 : lw_okq (⟨"ScoreboardCore$Instruction", "listAddressNeeds", "()V"⟩, 9) := ⟨⟨by decide +kernel, by decide +kernel⟩, List.mem_of_getElem? (i := 88) (by decide +kernel), List.mem_of_getElem? (i := 379) (by decide +kernel), List.mem_of_getElem? (i := 380) (by decide +kernel)⟩
theorem lw_p7 : lw_okq (⟨"ScoreboardCore$Instruction", "listJumpNeeds", "()V"⟩, 9) := ⟨⟨by decide +kernel, by decide +kernel⟩, List.mem_of_getElem? (i := 88) (by decide +kernel), List.mem_of_getElem? (i := 399) (by decide +kernel), List.mem_of_getElem? (i := 400) (by decide +kernel)⟩
theorem lw_p8 : lw_okq (⟨"ScoreboardCore$Instruction", "listResults", "()V"⟩, 9) := ⟨⟨by decide +kernel, by decide +kernel⟩, List.mem_of_getElem? (i := 88) (by decide +kernel), List.mem_of_getElem? (i := 403) (by decide +kernel), List.mem_of_getElem? (i := 404) (by decide +kernel)⟩
theorem lw_p9 : lw_okq (⟨"ScoreboardCore", "takeJump", "()V"⟩, 7) := ⟨⟨by decide +kernel, by decide +kernel⟩, List.mem_of_getElem? (i := 21) (by decide +kernel), List.mem_of_getElem? (i := 416) (by decide +kernel), List.mem_of_getElem? (i := 417) (by decide +kernel)⟩
theorem lw_p10 : lw_okq (⟨"ScoreboardCore$Board", "waitFor", "(III)I"⟩, 9) := ⟨⟨by decide +kernel, by decide +kernel⟩, List.mem_of_getElem? (i := 53) (by decide +kernel), List.mem_of_getElem? (i := 483) (by decide +kernel), List.mem_of_getElem? (i := 484) (by decide +kernel)⟩
theorem lw_p11 : lw_okq (⟨"ScoreboardCore$Board", "reach", "(I)V"⟩, 9) := ⟨⟨by decide +kernel, by decide +kernel⟩, List.mem_of_getElem? (i := 53) (by decide +kernel), List.mem_of_getElem? (i := 488) (by decide +kernel), List.mem_of_getElem? (i := 489) (by decide +kernel)⟩
theorem lw_p12 : lw_okq (⟨"ScoreboardCore", "goOnBehind", "()V"⟩, 7) := ⟨⟨by decide +kernel, by decide +kernel⟩, List.mem_of_getElem? (i := 21) (by decide +kernel), List.mem_of_getElem? (i := 492) (by decide +kernel), List.mem_of_getElem? (i := 493) (by decide +kernel)⟩
theorem lw_p13 : lw_okq (⟨"ScoreboardCore$Board", "givenOutAt", "(LScoreboardCore$Instruction;)I"⟩, 9) := ⟨⟨by decide +kernel, by decide +kernel⟩, List.mem_of_getElem? (i := 53) (by decide +kernel), List.mem_of_getElem? (i := 527) (by decide +kernel), List.mem_of_getElem? (i := 528) (by decide +kernel)⟩
theorem lw_p14 : lw_okq (⟨"ScoreboardCore$Board", "occupyUnit", "(LScoreboardCore$Instruction;I)V"⟩, 9) := ⟨⟨by decide +kernel, by decide +kernel⟩, List.mem_of_getElem? (i := 53) (by decide +kernel), List.mem_of_getElem? (i := 538) (by decide +kernel), List.mem_of_getElem? (i := 539) (by decide +kernel)⟩
theorem lw_p15 : lw_okq (⟨"ScoreboardCore$Board", "unitFreeAt", "(II)I"⟩, 9) := ⟨⟨by decide +kernel, by decide +kernel⟩, List.mem_of_getElem? (i := 53) (by decide +kernel), List.mem_of_getElem? (i := 542) (by decide +kernel), List.mem_of_getElem? (i := 543) (by decide +kernel)⟩
def lw_privs_1 : List (MethodName × Nat) := [(⟨"java/lang/Throwable", "fillInStackTrace", "(I)Ljava/lang/Throwable;"⟩, 6), (⟨"ScoreboardCore", "goOnAt", "(I)V"⟩, 7), (⟨"ScoreboardCore", "takeNext", "()Z"⟩, 7), (⟨"ScoreboardCore$Instruction", "listNeeds", "()V"⟩, 9), (⟨"ScoreboardCore$Instruction", "listLogicNeeds", "()V"⟩, 9), (⟨"ScoreboardCore$Instruction", "listShiftNeeds", "()V"⟩, 9), (⟨"ScoreboardCore$Instruction", "listAddressNeeds", "()V"⟩, 9), (⟨"ScoreboardCore$Instruction", "listJumpNeeds", "()V"⟩, 9), (⟨"ScoreboardCore$Instruction", "listResults", "()V"⟩, 9), (⟨"ScoreboardCore", "takeJump", "()V"⟩, 7), (⟨"ScoreboardCore$Board", "waitFor", "(III)I"⟩, 9), (⟨"ScoreboardCore$Board", "reach", "(I)V"⟩, 9), (⟨"ScoreboardCore", "goOnBehind", "()V"⟩, 7), (⟨"ScoreboardCore$Board", "givenOutAt", "(LScoreboardCore$Instruction;)I"⟩, 9), (⟨"ScoreboardCore$Board", "occupyUnit", "(LScoreboardCore$Instruction;I)V"⟩, 9), (⟨"ScoreboardCore$Board", "unitFreeAt", "(II)I"⟩, 9)]
theorem lw_r1 : ∀ q ∈ lw_privs_1, lw_okq q := List.forall_mem_cons.mpr ⟨lw_p0, List.forall_mem_cons.mpr ⟨lw_p1, List.forall_mem_cons.mpr ⟨lw_p2, List.forall_mem_cons.mpr ⟨lw_p3, List.forall_mem_cons.mpr ⟨lw_p4, List.forall_mem_cons.mpr ⟨lw_p5, List.forall_mem_cons.mpr ⟨lw_p6, List.forall_mem_cons.mpr ⟨lw_p7, List.forall_mem_cons.mpr ⟨lw_p8, List.forall_mem_cons.mpr ⟨lw_p9, List.forall_mem_cons.mpr ⟨lw_p10, List.forall_mem_cons.mpr ⟨lw_p11, List.forall_mem_cons.mpr ⟨lw_p12, List.forall_mem_cons.mpr ⟨lw_p13, List.forall_mem_cons.mpr ⟨lw_p14, List.forall_mem_cons.mpr ⟨lw_p15, fun _ h => absurd h List.not_mem_nil⟩⟩⟩⟩⟩⟩⟩⟩⟩⟩⟩⟩⟩⟩⟩⟩
theorem lw_p16 : lw_okq (⟨"ScoreboardCore$Board", "endsAt", "(LScoreboardCore$Instruction;I)I"⟩, 9) := ⟨⟨by decide +kernel, by decide +kernel⟩, List.mem_of_getElem? (i := 53) (by decide +kernel), List.mem_of_getElem? (i := 548) (by decide +kernel), List.mem_of_getElem? (i := 549) (by decide +kernel)⟩
theorem lw_p17 : lw_okq (⟨"ScoreboardCoreModel", "set", "(IJ)V"⟩, 24) := ⟨⟨by decide +kernel, by decide +kernel⟩, List.mem_of_getElem? (i := 665) (by decide +kernel), List.mem_of_getElem? (i := 765) (by decide +kernel), List.mem_of_getElem? (i := 766) (by decide +kernel)⟩
theorem lw_p18 : lw_okq (⟨"ScoreboardCoreModel", "one", "()Z"⟩, 24) := ⟨⟨by decide +kernel, by decide +kernel⟩, List.mem_of_getElem? (i := 665) (by decide +kernel), List.mem_of_getElem? (i := 778) (by decide +kernel), List.mem_of_getElem? (i := 779) (by decide +kernel)⟩
theorem lw_p19 : lw_okq (⟨"ScoreboardCoreModel", "halt", "(I)V"⟩, 24) := ⟨⟨by decide +kernel, by decide +kernel⟩, List.mem_of_getElem? (i := 665) (by decide +kernel), List.mem_of_getElem? (i := 782) (by decide +kernel), List.mem_of_getElem? (i := 783) (by decide +kernel)⟩
theorem lw_p20 : lw_okq (⟨"ScoreboardCoreModel", "take", "()V"⟩, 24) := ⟨⟨by decide +kernel, by decide +kernel⟩, List.mem_of_getElem? (i := 665) (by decide +kernel), List.mem_of_getElem? (i := 786) (by decide +kernel), List.mem_of_getElem? (i := 787) (by decide +kernel)⟩
theorem lw_p21 : lw_okq (⟨"ScoreboardCoreModel", "parcelAt", "(I)I"⟩, 24) := ⟨⟨by decide +kernel, by decide +kernel⟩, List.mem_of_getElem? (i := 665) (by decide +kernel), List.mem_of_getElem? (i := 790) (by decide +kernel), List.mem_of_getElem? (i := 791) (by decide +kernel)⟩
theorem lw_p22 : lw_okq (⟨"ScoreboardCoreModel", "isUnknown", "()Z"⟩, 24) := ⟨⟨by decide +kernel, by decide +kernel⟩, List.mem_of_getElem? (i := 665) (by decide +kernel), List.mem_of_getElem? (i := 798) (by decide +kernel), List.mem_of_getElem? (i := 799) (by decide +kernel)⟩
theorem lw_p23 : lw_okq (⟨"ScoreboardCoreModel", "jump", "()V"⟩, 24) := ⟨⟨by decide +kernel, by decide +kernel⟩, List.mem_of_getElem? (i := 665) (by decide +kernel), List.mem_of_getElem? (i := 802) (by decide +kernel), List.mem_of_getElem? (i := 803) (by decide +kernel)⟩
theorem lw_p24 : lw_okq (⟨"ScoreboardCoreModel", "need", "(I)V"⟩, 24) := ⟨⟨by decide +kernel, by decide +kernel⟩, List.mem_of_getElem? (i := 665) (by decide +kernel), List.mem_of_getElem? (i := 806) (by decide +kernel), List.mem_of_getElem? (i := 807) (by decide +kernel)⟩
theorem lw_p25 : lw_okq (⟨"ScoreboardCoreModel", "freeFrom", "(I)J"⟩, 24) := ⟨⟨by decide +kernel, by decide +kernel⟩, List.mem_of_getElem? (i := 665) (by decide +kernel), List.mem_of_getElem? (i := 810) (by decide +kernel), List.mem_of_getElem? (i := 811) (by decide +kernel)⟩
theorem lw_p26 : lw_okq (⟨"ScoreboardCoreModel", "holds", "()Z"⟩, 24) := ⟨⟨by decide +kernel, by decide +kernel⟩, List.mem_of_getElem? (i := 665) (by decide +kernel), List.mem_of_getElem? (i := 817) (by decide +kernel), List.mem_of_getElem? (i := 818) (by decide +kernel)⟩
theorem lw_p27 : lw_okq (⟨"ScoreboardCoreModel", "goOn", "()V"⟩, 24) := ⟨⟨by decide +kernel, by decide +kernel⟩, List.mem_of_getElem? (i := 665) (by decide +kernel), List.mem_of_getElem? (i := 828) (by decide +kernel), List.mem_of_getElem? (i := 829) (by decide +kernel)⟩
theorem lw_p28 : lw_okq (⟨"ScoreboardCoreModel", "find", "()V"⟩, 24) := ⟨⟨by decide +kernel, by decide +kernel⟩, List.mem_of_getElem? (i := 665) (by decide +kernel), List.mem_of_getElem? (i := 836) (by decide +kernel), List.mem_of_getElem? (i := 837) (by decide +kernel)⟩
theorem lw_p29 : lw_okq (⟨"ScoreboardCoreModel", "give", "(I)V"⟩, 24) := ⟨⟨by decide +kernel, by decide +kernel⟩, List.mem_of_getElem? (i := 665) (by decide +kernel), List.mem_of_getElem? (i := 840) (by decide +kernel), List.mem_of_getElem? (i := 841) (by decide +kernel)⟩
theorem lw_p30 : lw_okq (⟨"ScoreboardCoreModel", "isMemory", "()Z"⟩, 24) := ⟨⟨by decide +kernel, by decide +kernel⟩, List.mem_of_getElem? (i := 665) (by decide +kernel), List.mem_of_getElem? (i := 844) (by decide +kernel), List.mem_of_getElem? (i := 845) (by decide +kernel)⟩
theorem lw_p31 : lw_okq (⟨"ScoreboardCoreModel", "board", "()V"⟩, 24) := ⟨⟨by decide +kernel, by decide +kernel⟩, List.mem_of_getElem? (i := 665) (by decide +kernel), List.mem_of_getElem? (i := 848) (by decide +kernel), List.mem_of_getElem? (i := 849) (by decide +kernel)⟩
def lw_privs_2 : List (MethodName × Nat) := [(⟨"ScoreboardCore$Board", "endsAt", "(LScoreboardCore$Instruction;I)I"⟩, 9), (⟨"ScoreboardCoreModel", "set", "(IJ)V"⟩, 24), (⟨"ScoreboardCoreModel", "one", "()Z"⟩, 24), (⟨"ScoreboardCoreModel", "halt", "(I)V"⟩, 24), (⟨"ScoreboardCoreModel", "take", "()V"⟩, 24), (⟨"ScoreboardCoreModel", "parcelAt", "(I)I"⟩, 24), (⟨"ScoreboardCoreModel", "isUnknown", "()Z"⟩, 24), (⟨"ScoreboardCoreModel", "jump", "()V"⟩, 24), (⟨"ScoreboardCoreModel", "need", "(I)V"⟩, 24), (⟨"ScoreboardCoreModel", "freeFrom", "(I)J"⟩, 24), (⟨"ScoreboardCoreModel", "holds", "()Z"⟩, 24), (⟨"ScoreboardCoreModel", "goOn", "()V"⟩, 24), (⟨"ScoreboardCoreModel", "find", "()V"⟩, 24), (⟨"ScoreboardCoreModel", "give", "(I)V"⟩, 24), (⟨"ScoreboardCoreModel", "isMemory", "()Z"⟩, 24), (⟨"ScoreboardCoreModel", "board", "()V"⟩, 24)]
theorem lw_r2 : ∀ q ∈ lw_privs_2, lw_okq q := List.forall_mem_cons.mpr ⟨lw_p16, List.forall_mem_cons.mpr ⟨lw_p17, List.forall_mem_cons.mpr ⟨lw_p18, List.forall_mem_cons.mpr ⟨lw_p19, List.forall_mem_cons.mpr ⟨lw_p20, List.forall_mem_cons.mpr ⟨lw_p21, List.forall_mem_cons.mpr ⟨lw_p22, List.forall_mem_cons.mpr ⟨lw_p23, List.forall_mem_cons.mpr ⟨lw_p24, List.forall_mem_cons.mpr ⟨lw_p25, List.forall_mem_cons.mpr ⟨lw_p26, List.forall_mem_cons.mpr ⟨lw_p27, List.forall_mem_cons.mpr ⟨lw_p28, List.forall_mem_cons.mpr ⟨lw_p29, List.forall_mem_cons.mpr ⟨lw_p30, List.forall_mem_cons.mpr ⟨lw_p31, fun _ h => absurd h List.not_mem_nil⟩⟩⟩⟩⟩⟩⟩⟩⟩⟩⟩⟩⟩⟩⟩⟩
theorem lw_p32 : lw_okq (⟨"ScoreboardCoreModel", "unit", "()I"⟩, 24) := ⟨⟨by decide +kernel, by decide +kernel⟩, List.mem_of_getElem? (i := 665) (by decide +kernel), List.mem_of_getElem? (i := 852) (by decide +kernel), List.mem_of_getElem? (i := 853) (by decide +kernel)⟩
theorem lw_p33 : lw_okq (⟨"ScoreboardCoreModel", "act", "()V"⟩, 24) := ⟨⟨by decide +kernel, by decide +kernel⟩, List.mem_of_getElem? (i := 665) (by decide +kernel), List.mem_of_getElem? (i := 859) (by decide +kernel), List.mem_of_getElem? (i := 860) (by decide +kernel)⟩
theorem lw_p34 : lw_okq (⟨"ScoreboardCoreModel", "reckoned", "()J"⟩, 24) := ⟨⟨by decide +kernel, by decide +kernel⟩, List.mem_of_getElem? (i := 665) (by decide +kernel), List.mem_of_getElem? (i := 863) (by decide +kernel), List.mem_of_getElem? (i := 864) (by decide +kernel)⟩
theorem lw_p35 : lw_okq (⟨"ScoreboardCoreModel", "mixed", "()J"⟩, 24) := ⟨⟨by decide +kernel, by decide +kernel⟩, List.mem_of_getElem? (i := 665) (by decide +kernel), List.mem_of_getElem? (i := 867) (by decide +kernel), List.mem_of_getElem? (i := 868) (by decide +kernel)⟩
theorem lw_p36 : lw_okq (⟨"ScoreboardCoreModel", "shifted", "()J"⟩, 24) := ⟨⟨by decide +kernel, by decide +kernel⟩, List.mem_of_getElem? (i := 665) (by decide +kernel), List.mem_of_getElem? (i := 871) (by decide +kernel), List.mem_of_getElem? (i := 872) (by decide +kernel)⟩
theorem lw_p37 : lw_okq (⟨"ScoreboardCoreModel", "placed", "()J"⟩, 24) := ⟨⟨by decide +kernel, by decide +kernel⟩, List.mem_of_getElem? (i := 665) (by decide +kernel), List.mem_of_getElem? (i := 887) (by decide +kernel), List.mem_of_getElem? (i := 888) (by decide +kernel)⟩
def lw_privs_3 : List (MethodName × Nat) := [(⟨"ScoreboardCoreModel", "unit", "()I"⟩, 24), (⟨"ScoreboardCoreModel", "act", "()V"⟩, 24), (⟨"ScoreboardCoreModel", "reckoned", "()J"⟩, 24), (⟨"ScoreboardCoreModel", "mixed", "()J"⟩, 24), (⟨"ScoreboardCoreModel", "shifted", "()J"⟩, 24), (⟨"ScoreboardCoreModel", "placed", "()J"⟩, 24)]
theorem lw_r3 : ∀ q ∈ lw_privs_3, lw_okq q := List.forall_mem_cons.mpr ⟨lw_p32, List.forall_mem_cons.mpr ⟨lw_p33, List.forall_mem_cons.mpr ⟨lw_p34, List.forall_mem_cons.mpr ⟨lw_p35, List.forall_mem_cons.mpr ⟨lw_p36, List.forall_mem_cons.mpr ⟨lw_p37, fun _ h => absurd h List.not_mem_nil⟩⟩⟩⟩⟩⟩
def lw_privs : List (MethodName × Nat) := lw_privs_1 ++ (lw_privs_2 ++ (lw_privs_3))
def lw_tbl : List Cond := k2_sels lw_privs ++ tables_1
theorem lw_privs_ok : ∀ q ∈ lw_privs, lw_okq q := by
  show ∀ q ∈ lw_privs_1 ++ (lw_privs_2 ++ (lw_privs_3)), lw_okq q
  exact List.forall_mem_append.mpr ⟨lw_r1, List.forall_mem_append.mpr ⟨lw_r2, lw_r3⟩⟩
-- ===== end of PART A; then your names; then what follows =====
end
section
/-! ===== BEGIN words of one list among another's, by their places ===== -/
theorem goodIn_r {big : List Cond} (ws : List Cond) (ps : List Nat) (hp : ws = ps.filterMap (fun i => big[i]?)) (h : ws.all goodWord = true) : GoodIn big ws := by
  intro w hw
  have h1 := List.all_eq_true.mp h w hw
  rw [hp] at hw
  obtain ⟨i, -, hi⟩ := List.mem_filterMap.mp hw
  have hm : w ∈ big := by first | exact List.mem_of_getElem? hi | exact List.getElem?_mem hi
  exact ⟨hm, good_of_word h1⟩
theorem goodIn_app {big a b : List Cond} (ha : GoodIn big a) (hb : GoodIn big b) : GoodIn big (a ++ b) := fun w h => (List.mem_append.mp h).elim (ha w) (hb w)
theorem goodIn_ca {big a b : List Cond} {c : Cond} (ha : GoodIn big (c :: a)) (hb : GoodIn big b) : GoodIn big (c :: (a ++ b)) := fun w h => (List.mem_cons.mp h).elim (fun e => ha w (List.mem_cons.mpr (Or.inl e))) (fun h => (List.mem_append.mp h).elim (fun h => ha w (List.mem_cons.mpr (Or.inr h))) (hb w))
theorem goodIn_sub {big ws : List Cond} (hm : ∀ w ∈ ws, w ∈ big) (h : ws.all goodWord = true) : GoodIn big ws := fun w hw => ⟨hm w hw, good_of_word (List.all_eq_true.mp h w hw)⟩
/-! ===== END ===== -/

/-! ===== BEGIN exceptions that leave a method, and their catching by the caller (launches without stack traces) ===== -/
section VXA
/-! The laws vx_back, vx_callV, vx_callS, vx_callSW, vx_throw0, vx_throwS follow proofs of the library, with one case more: JvmDerived/Free/Laws.lean (Back.of_free), Shelf42/LK1.lean (callV, callS), Shelf/KitTraced.lean (throwNew0V, throwNewS). -/
/-- where a method has thrown q: the class by its name, the cell, what was written, the world -/
def vx_T (XC : String → State → State → Prop) (st : State) (q : Addr) (t : State) (mc ms : Nat) (free : Addr → Prop) : Prop :=
  ∃ (E : String) (ce : Cell) (L : List Loc), XC E st t ∧ t.heap[q]? = some ce ∧ ce.vm = .none ∧ st.vm.findClass E = some ce.cls ∧ st.WarmedH t.vm ∧ st.sameButNew ({ t with vm := st.vm } : State) L mc ms ∧ ∀ z ∈ L, free z.base
def vx_Q (Qc : Array Value → State → Outcome → State → Prop) (XC : String → State → State → Prop) (mc ms : Nat) (free : Addr → Prop) : Array Value → State → Outcome → State → Prop := fun a st o t =>
  (Qc a st o t ∧ ∃ L, FrameEnd st o t L mc ms ∧ ∀ q ∈ L, free q.base) ∨ ∃ q, o = .threw q ∧ vx_T XC st q t mc ms free
/-- a callee that returns or throws -/
def vx_Met (l : Launch) (y : MethodName) (ws : List Cond) (rm : Room) (Pc : Array Value → State → Prop) (Qc : Array Value → State → Outcome → State → Prop) (XC : String → State → State → Prop) (mc ms : Nat) (free : Addr → Prop) : Prop :=
  MetFree l y (headSpec ws rm) Pc (fun _ _ _ _ _ => True) (vx_Q Qc XC mc ms free)
def vx_Post (XC : String → State → State → Prop) (mc ms : Nat) (free : Addr → Prop) : Pt → Array Value → Addr → Pt → Prop := fun A a q B =>
  ∃ (g : JFrame) (mk : MethodId) (t : State) (L : List Loc) (E : String) (ce : Cell), B.U.heap = t.heap ∧ B.U.vm = t.vm ∧ XC E (A.U.calling g mk a) t ∧ t.heap[q]? = some ce ∧ ce.vm = .none ∧ A.U.vm.findClass E = some ce.cls ∧ B.locs = A.locs ++ L ∧ (∀ z ∈ L, free z.base) ∧ B.cells = A.cells + mc ∧ B.slots = A.slots + ms
def vx_Back (l : Launch) (R : Room) (p : Program) (e : Env) (below : List Frame) (s : State) (sargs : Array Value) (y : MethodName) (len W9 : Nat)
    (Pre : Pt → Array Value → Prop) (Post : Pt → Array Value → Option Value → Pt → Prop) (PostX : Pt → Array Value → Addr → Pt → Prop) : Prop :=
  ∀ (m : MethodId) (meth : Method) (c : Code) (A : Pt) (g : JFrame) (ig : Instr) (mk : MethodId) (a : Array Value),
    Stand p l e R s m sargs below meth c A.U A.locs A.cells A.slots → g.method = m → g.locals.size = c.maxLocals → decode c.code g.pc = .ok (ig, len) →
    2 * g.monitorRoom + (g.stack.map fun v => v.category).sum ≤ W9 → A.U.methodNamed? y = some mk → Pre A a →
    (∃ (v : Option Value) (B : Pt), Stand p l e R s m sargs below meth c B.U B.locs B.cells B.slots ∧ Post A a v B ∧
      Steps p.tables e below (doInvoke e (A.U.setTop g) [] mk a).1 (B.U.setTop { g with pc := g.pc + len, stack := v.toList ++ g.stack })) ∨
    (∃ (q : Addr) (B : Pt), Stand p l e R s m sargs below meth c B.U B.locs B.cells B.slots ∧ PostX A a q B ∧
      Steps p.tables e below (doInvoke e (A.U.setTop g) [] mk a).1 ((B.U.setTop g).pushFrame (.throwing q)))
section Payer
variable {l : Launch} {R : Room} {p : Program} {e : Env} {below : List Frame} {s : State} {sargs : Array Value} {y : MethodName} {len W9 : Nat}
theorem vx_back {ws : List Cond} {rm : Room} {Pc : Array Value → State → Prop} {Qc : Array Value → State → Outcome → State → Prop} {XC : String → State → State → Prop} {mc ms : Nat} {free : Addr → Prop} {bytes : ByteArray} {maxL : Nat} {ret : Option FieldType}
    (hM : vx_Met l y ws rm Pc Qc XC mc ms free) (hblind : FrameBlind Pc) (hrc : rm.cells = mc) (hrs : rm.slots = ms)
    (hframes : rm.frames + 1 ≤ R.frames) (hlocals : W9 + (maxL + 11) + rm.locals ≤ R.locals)
    (hws : ∀ w ∈ ws, ∀ a' U, s.WarmedH U.vm → w.before a' U = true) (hcode : Cond.code y bytes maxL ret ∈ ws) (hinit : ∀ a' U, s.WarmedH U.vm → (Cond.initialized y.cls).before a' U = true) :
    vx_Back l R p e below s sargs y len W9 (PreOf R mc ms Pc) (PostOf Qc mc ms free) (vx_Post XC mc ms free) := by
  intro m meth c A g ig mk a X hg hsize hdg hW hn hp
  have h1 : (headSpec ws rm).pre.before a A.U = true := atoms_intro fun w hw => hws w hw _ _ X.warmed
  have h2 : (Cond.code y bytes maxL ret).before a A.U = true := hws _ hcode _ _ X.warmed
  have h3 : (Cond.initialized y.cls).before a A.U = true := hinit _ _ X.warmed
  have h4 : A.cells + (headSpec ws rm).room.cells ≤ R.cells := by rw [show (headSpec ws rm).room.cells = mc from hrc]; exact hp.1
  have h5 : A.slots + (headSpec ws rm).room.slots ≤ R.slots := by rw [show (headSpec ws rm).room.slots = ms from hrs]; exact hp.2.1
  have hPc : Pc a (A.U.calling g mk a) := hblind _ _ _ _ hp.2.2
  obtain ⟨U, Ls, c0, s0⟩ := A
  dsimp only [Pt.U, Pt.locs, Pt.cells, Pt.slots] at h1 h2 h3 h4 h5 X hn hPc ⊢
  obtain ⟨methY, cY, hmY, hcY, -, hlY, -, -, -, -⟩ := Cond.code_spec hn h2
  obtain ⟨kY, hkY, -⟩ := className_of_methodNamed hn
  have hinitY : kY.init = .initialized := Cond.initialized_spec (findClass_of_methodNamed hn) hkY h3
  have h : At U g.method c below := by rw [hg]; exact X.here
  have hlocals9 : W9 + (maxL + 11) + (headSpec ws rm).room.locals ≤ R.locals := hlocals
  have happ : (headSpec ws rm).appliesLoose y e.platform (U.calling g mk a) = true :=
    Spec.appliesLoose_calling (g := g) h hdg hn hkY hinitY
      (X.room_calling (g := g) (R' := (headSpec ws rm).room) hsize hmY hcY hframes (by rw [hlY]; omega) h4 h5) h1
  obtain ⟨mid, hmid⟩ := h.above
  have hfr : (U.setTop g).frames = (.java g :: mid) ++ below := by rw [State.frames_setTop' g h.top, hmid]; rfl
  obtain ⟨o, s₂, hsteps, -, hend, hq⟩ := Steps.callFree hM p X.admits X.cas X.clock (acts := []) hfr happ hPc trivial
  have hq' : vx_Q Qc XC mc ms free a (U.calling g mk a) o s₂ := hq
  rw [State.frames_setTop' g h.top] at hend
  obtain ⟨g₀, hg0⟩ := Option.isSome_iff_exists.mp h.top
  obtain ⟨r, hr⟩ := State.topJava?_eq_some.mp hg0
  have hr' : (({ U with heap := s₂.heap, slotsUsed := s₂.slotsUsed } : State).setVm s₂.vm).frames = .java g₀ :: r := hr
  rcases hq' with ⟨hqc, L, hfe, hL⟩ | ⟨q, rfl, E, ce, L, hx, hce, hcv, hcl, hW₂, hsm, hL⟩
  · obtain ⟨⟨v, rfl⟩, hW₂, e2, q2, q3, q4, q5, q6⟩ := id hfe
    have e3 : s₂ = ({ (U.calling g mk a).setFrames s₂.frames with heap := s₂.heap, slotsUsed := s₂.slotsUsed } : State).setVm s₂.vm := by
      have : s₂ = ({ s₂ with vm := (U.calling g mk a).vm } : State).setVm s₂.vm := rfl
      rw [e2] at this
      exact this
    obtain ⟨c₂, i₂, len₂, hc₂, hd₂, hf₂⟩ := hend
    have hW' : U.WarmedH s₂.vm := hW₂
    have hcc : c₂ = c := by
      have h1 : s₂.code? g.method = U.code? g.method := by
        rw [State.code?_eq, State.code?_eq, hW'.alike.method?]
      exact Option.some.inj (hc₂.symm.trans (h1.trans h.code))
    subst hcc
    have hlen : len₂ = len := by rw [hdg] at hd₂; cases hd₂; rfl
    subst hlen
    have hs₂ : s₂ = (({ U with heap := s₂.heap, slotsUsed := s₂.slotsUsed } : State).setVm s₂.vm).setTop { g with pc := g.pc + len₂, stack := v.toList ++ g.stack } := by
      refine e3.trans ?_
      rw [hf₂, State.calling_eq h.top, State.setFrames_setFrames, State.setTop_of_frames _ hr', hr]
      rfl
    have hsame : U.sameButNew ({ U with heap := s₂.heap, slotsUsed := s₂.slotsUsed } : State) L mc ms := by
      refine ⟨?_, q2, q3, q4, q5, q6⟩
      obtain ⟨t, ht, -⟩ := State.frames_cons hr
      show ({ U with heap := s₂.heap, slotsUsed := s₂.slotsUsed } : State) = { U.setFrames U.frames with heap := s₂.heap, slotsUsed := s₂.slotsUsed }
      rw [State.setFrames_self ht]
    subst hg
    refine Or.inl ⟨v, ⟨(({ U with heap := s₂.heap, slotsUsed := s₂.slotsUsed } : State).setVm s₂.vm), Ls ++ L, c0 + mc, s0 + ms⟩,
      ⟨X.admits, X.cas, X.clock, X.frames, X.room, X.hears, X.method, X.code, (X.here.setHeapUsed s₂.heap s₂.slotsUsed).setVm hW'.alike, X.tail, State.WarmedH.trans X.warmed hW', X.limits, X.bytes, X.same.trans (hsame.setVm s.vm)⟩,
      ⟨g, mk, s₂, L, rfl, rfl, hqc, rfl, hL, rfl, rfl⟩, ?_⟩
    show Steps p.tables e below _ ((({ U with heap := s₂.heap, slotsUsed := s₂.slotsUsed } : State).setVm s₂.vm).setTop { g with pc := g.pc + len₂, stack := v.toList ++ g.stack })
    rw [← hs₂]
    exact hsteps
  · obtain ⟨e2, q2, q3, q4, q5, q6⟩ := id hsm
    have e3 : s₂ = ({ (U.calling g mk a).setFrames s₂.frames with heap := s₂.heap, slotsUsed := s₂.slotsUsed } : State).setVm s₂.vm := by
      have : s₂ = ({ s₂ with vm := (U.calling g mk a).vm } : State).setVm s₂.vm := rfl
      rw [e2] at this
      exact this
    have hf₂ : s₂.frames = .throwing q :: .java g :: U.frames.tail := hend
    have hW' : U.WarmedH s₂.vm := hW₂
    have hs₂ : s₂ = ((({ U with heap := s₂.heap, slotsUsed := s₂.slotsUsed } : State).setVm s₂.vm).setTop g).pushFrame (.throwing q) := by
      refine e3.trans ?_
      rw [hf₂, State.calling_eq h.top, State.setFrames_setFrames, State.pushFrame, State.frames_setTop _ hr', State.setTop_of_frames _ hr', State.setFrames_setFrames, hr]
      rfl
    have hsame : U.sameButNew ({ U with heap := s₂.heap, slotsUsed := s₂.slotsUsed } : State) L mc ms := by
      refine ⟨?_, q2, q3, q4, q5, q6⟩
      obtain ⟨t, ht, -⟩ := State.frames_cons hr
      show ({ U with heap := s₂.heap, slotsUsed := s₂.slotsUsed } : State) = { U.setFrames U.frames with heap := s₂.heap, slotsUsed := s₂.slotsUsed }
      rw [State.setFrames_self ht]
    subst hg
    refine Or.inr ⟨q, ⟨(({ U with heap := s₂.heap, slotsUsed := s₂.slotsUsed } : State).setVm s₂.vm), Ls ++ L, c0 + mc, s0 + ms⟩,
      ⟨X.admits, X.cas, X.clock, X.frames, X.room, X.hears, X.method, X.code, (X.here.setHeapUsed s₂.heap s₂.slotsUsed).setVm hW'.alike, X.tail, State.WarmedH.trans X.warmed hW', X.limits, X.bytes, X.same.trans (hsame.setVm s.vm)⟩,
      ⟨g, mk, s₂, L, E, ce, rfl, rfl, hx, hce, hcv, hcl, rfl, hL, rfl, rfl⟩, ?_⟩
    show Steps p.tables e below _ (((({ U with heap := s₂.heap, slotsUsed := s₂.slotsUsed } : State).setVm s₂.vm).setTop g).pushFrame (.throwing q))
    rw [← hs₂]
    exact hsteps
end Payer
section Calls
variable {p : Program} {l : Launch} {e : Env} {R : Room} {s : State} {m : MethodId} {args : Array Value} {below : List Frame} {meth : Method} {c : Code} {T : State} {locs : List Loc} {cells slots : Nat}
theorem vx_callV (X : Stand p l e R s m args below meth c T locs cells slots) (hexec : p.tables.exec = Jvm.exec) {own C : String} {index : Nat} {y : MethodName} {bytes : ByteArray} {maxL : Nat} {ret : Option FieldType}
    (hown : s.vm.findClass own = some m.cls) (hlink : (Cond.methodLink own index y).before args s = true) (hinst : (Cond.instanceMethod y).before args s = true) (hsel : (Cond.selects C y y).before args s = true)
    (hcode : (Cond.code y bytes maxL ret).before args s = true) (hy : y.cls ≠ "java/lang/invoke/MethodHandle" ∧ y.cls ≠ "java/lang/invoke/VarHandle")
    {W9 : Nat} {Pre : Pt → Array Value → Prop} {Post : Pt → Array Value → Option Value → Pt → Prop} {PostX : Pt → Array Value → Addr → Pt → Prop} (hK : vx_Back l R p e below s args y 3 W9 Pre Post PostX)
    {b : Addr} {cellB : Cell} (hcell : T.heap[b]? = some cellB) (hobj : cellB.vm.isStatics = false) (hcls : s.vm.findClass C = some cellB.cls)
    {g : JFrame} (hg : g.method = m) (hsize : g.locals.size = c.maxLocals) {argsL rest : List Value} (hlen : ∀ sig, parseMethodDescriptor y.desc = some sig → argsL.length = sig.parameters.length)
    (hstack : g.stack = argsL.reverse ++ .ref b :: rest) (hW : 2 * g.monitorRoom + (rest.map fun v => v.category).sum ≤ W9) (hdg : decode c.code g.pc = .ok (.invokevirtual index, 3))
    (hpre : ∀ vm₁, s.WarmedH vm₁ → Pre ⟨T.setVm vm₁, locs, cells, slots⟩ (Value.ref b :: argsL).toArray) :
    (∃ (v : Option Value) (vm₁ : Vm) (B : Pt), s.WarmedH vm₁ ∧ Stand p l e R s m args below meth c B.U B.locs B.cells B.slots ∧ Post ⟨T.setVm vm₁, locs, cells, slots⟩ (Value.ref b :: argsL).toArray v B ∧
      ∀ target, Steps p.tables e below (B.U.setTop { g with pc := g.pc + 3, stack := v.toList ++ rest }) target → Steps p.tables e below (T.setTop g) target) ∨
    (∃ (q : Addr) (vm₁ : Vm) (B : Pt), s.WarmedH vm₁ ∧ Stand p l e R s m args below meth c B.U B.locs B.cells B.slots ∧ PostX ⟨T.setVm vm₁, locs, cells, slots⟩ (Value.ref b :: argsL).toArray q B ∧
      Steps p.tables e below (T.setTop g) ((B.U.setTop { g with stack := rest }).pushFrame (.throwing q))) := by
  obtain ⟨mk, methM, hnamed, hmethM, hstM, habM⟩ := Cond.instanceMethod_spec hinst
  obtain ⟨methM', cM, hmethM', -, -, -, -, -, -, hsigM⟩ := Cond.code_spec hnamed hcode
  cases hmethM.symm.trans hmethM'
  obtain ⟨c2, r2, m2, q1, q2, q3, q4, kP, hkP, hkPi⟩ := Cond.selects_spec hsel
  cases hcls.symm.trans q1
  cases (State.methodFound?_of_named hnamed hy).symm.trans q2
  cases hnamed.symm.trans q3
  have hselP : selectMethod e.platform s.vm cellB.cls mk = .method mk := by rw [Launch.admits_selectMethod X.admits]; exact q4
  obtain ⟨vm₁, X₁, hstep₁⟩ := X.invokevirtual hexec hown hlink hnamed hmethM hstM hkP hkPi hy (a := b) (cell := cellB) hcell
    (fun z h => by rw [h] at hobj; cases hobj) hselP hmethM habM hkP hkPi (g := g) hg (argsL := argsL) (rest := rest) (hlen _ hsigM) hstack hdg
  rcases hK m meth c ⟨T.setVm vm₁, locs, cells, slots⟩ { g with stack := rest } (.invokevirtual index) mk (Value.ref b :: argsL).toArray X₁ hg hsize hdg hW (X₁.named hnamed) (hpre vm₁ X₁.warmed) with ⟨v, B, X', hpost, hsteps⟩ | ⟨q, B, X', hpost, hsteps⟩
  · exact Or.inl ⟨v, vm₁, B, X₁.warmed, X', hpost, fun target h => hstep₁ _ fun acts => by rw [doInvoke_state]; exact hsteps.trans h⟩
  · exact Or.inr ⟨q, vm₁, B, X₁.warmed, X', hpost, hstep₁ _ fun acts => by rw [doInvoke_state]; exact hsteps⟩
theorem vx_callS (X : Stand p l e R s m args below meth c T locs cells slots) (hexec : p.tables.exec = Jvm.exec) {own : String} {index : Nat} {y : MethodName} {bytes : ByteArray} {maxL : Nat} {ret : Option FieldType}
    (hown : s.vm.findClass own = some m.cls) (hlink : (Cond.methodLink own index y).before args s = true) (hstat : (Cond.static y).before args s = true) (hinit : (Cond.initialized y.cls).before args s = true)
    (hcode : (Cond.code y bytes maxL ret).before args s = true) (hy : y.cls ≠ "java/lang/invoke/MethodHandle" ∧ y.cls ≠ "java/lang/invoke/VarHandle")
    {W9 : Nat} {Pre : Pt → Array Value → Prop} {Post : Pt → Array Value → Option Value → Pt → Prop} {PostX : Pt → Array Value → Addr → Pt → Prop} (hK : vx_Back l R p e below s args y 3 W9 Pre Post PostX)
    {g : JFrame} (hg : g.method = m) (hsize : g.locals.size = c.maxLocals) {argsL rest : List Value} (hlen : ∀ sig, parseMethodDescriptor y.desc = some sig → argsL.length = sig.parameters.length)
    (hstack : g.stack = argsL.reverse ++ rest) (hW : 2 * g.monitorRoom + (rest.map fun v => v.category).sum ≤ W9) (hdg : decode c.code g.pc = .ok (.invokestatic index, 3))
    (hpre : ∀ vm₁, s.WarmedH vm₁ → Pre ⟨T.setVm vm₁, locs, cells, slots⟩ argsL.toArray) :
    (∃ (v : Option Value) (vm₁ : Vm) (B : Pt), s.WarmedH vm₁ ∧ Stand p l e R s m args below meth c B.U B.locs B.cells B.slots ∧ Post ⟨T.setVm vm₁, locs, cells, slots⟩ argsL.toArray v B ∧
      ∀ target, Steps p.tables e below (B.U.setTop { g with pc := g.pc + 3, stack := v.toList ++ rest }) target → Steps p.tables e below (T.setTop g) target) ∨
    (∃ (q : Addr) (vm₁ : Vm) (B : Pt), s.WarmedH vm₁ ∧ Stand p l e R s m args below meth c B.U B.locs B.cells B.slots ∧ PostX ⟨T.setVm vm₁, locs, cells, slots⟩ argsL.toArray q B ∧
      Steps p.tables e below (T.setTop g) ((B.U.setTop { g with stack := rest }).pushFrame (.throwing q))) := by
  obtain ⟨mk, hnamed⟩ := Cond.code_named hcode
  obtain ⟨methM, cM, hmethM, -, -, -, -, -, -, hsigM⟩ := Cond.code_spec hnamed hcode
  have hstatic : methM.isStatic = true := Cond.static_spec hnamed hmethM hstat
  obtain ⟨kP, hkP, -⟩ := className_of_methodNamed hnamed
  have hinitP : kP.init = .initialized := Cond.initialized_spec (findClass_of_methodNamed hnamed) hkP hinit
  obtain ⟨vm₁, X₁, hstep₁⟩ := X.invokestatic hexec hown hlink hnamed hmethM hstatic hkP hinitP hy (g := g) hg (argsL := argsL) (rest := rest) (hlen _ hsigM) hstack hdg
  rcases hK m meth c ⟨T.setVm vm₁, locs, cells, slots⟩ { g with stack := rest } (.invokestatic index) mk argsL.toArray X₁ hg hsize hdg hW (X₁.named hnamed) (hpre vm₁ X₁.warmed) with ⟨v, B, X', hpost, hsteps⟩ | ⟨q, B, X', hpost, hsteps⟩
  · exact Or.inl ⟨v, vm₁, B, X₁.warmed, X', hpost, fun target h => hstep₁ _ fun acts => by rw [doInvoke_state]; exact hsteps.trans h⟩
  · exact Or.inr ⟨q, vm₁, B, X₁.warmed, X', hpost, hstep₁ _ fun acts => by rw [doInvoke_state]; exact hsteps⟩
end Calls
theorem vx_cls {s : State} {T : State} {vm₁ : Vm} {E : String} {k : ClassId} (hW : s.WarmedH vm₁) (h : (T.setVm vm₁).vm.findClass E = some k) : s.vm.findClass E = some k := by
  have h1 : vm₁.findClass E = some k := h
  rw [hW.alike.findClass] at h1
  exact h1
/-- the method's frame g, with q thrown over it -/
def vx_W (p : Program) (l : Launch) (e : Env) (R : Room) (s : State) (m : MethodId) (args : Array Value) (below : List Frame) (meth : Method) (c : Code) (H : Heap) (locs : List Loc) (cells slots : Nat) (Q : State → Prop) (g : JFrame) (q : Addr) : Prop :=
  ∀ T : State, T.heap = H → Stand p l e R s m args below meth c T locs cells slots → ∃ t, Steps p.tables e below ((T.setTop g).pushFrame (.throwing q)) t ∧ Q t
def vx_Run (p : Program) (l : Launch) (e : Env) (R : Room) (s : State) (m : MethodId) (args : Array Value) (below : List Frame) (meth : Method) (c : Code) (H : Heap) (locs : List Loc) (cells slots mc ms : Nat) (g : JFrame) (rest : List Value) (Qa : State → Outcome → State → Prop) (XC : String → State → State → Prop) (free : Addr → Prop) : Prop :=
  ∀ T : State, T.heap = H → Stand p l e R s m args below meth c T locs cells slots →
    (∃ (v : Option Value) (st₀ t T' : State) (L : List Loc), st₀.heap = H ∧ Stand p l e R s m args below meth c T' (locs ++ L) (cells + mc) (slots + ms) ∧ (∀ q ∈ L, free q.base) ∧ T'.heap = t.heap ∧ T'.vm = t.vm ∧ Qa st₀ (.returned v) t ∧
      Goes p e below T g T' { g with pc := g.pc + 3, stack := v.toList ++ rest }) ∨
    (∃ (q : Addr) (st₀ t T' : State) (L : List Loc) (E : String) (ce : Cell), st₀.heap = H ∧ Stand p l e R s m args below meth c T' (locs ++ L) (cells + mc) (slots + ms) ∧ (∀ z ∈ L, free z.base) ∧ T'.heap = t.heap ∧ T'.vm = t.vm ∧ XC E st₀ t ∧ t.heap[q]? = some ce ∧ ce.vm = .none ∧ s.vm.findClass E = some ce.cls ∧
      Steps p.tables e below (T.setTop g) ((T'.setTop { g with stack := rest }).pushFrame (.throwing q)))
def vx_X {S : Type} (px : S → Prop) (B : String → S → State → Prop) (A : Nat → Prop) : String → State → State → Prop := fun E st t => ∃ u : S, px u ∧ B E u t ∧ va_F A st t
section Runs
variable {p : Program} {l : Launch} {e : Env} {R : Room} {s : State} {m : MethodId} {args : Array Value} {below : List Frame} {meth : Method} {c : Code} {H : Heap} {locs : List Loc} {cells slots : Nat}
variable {y : MethodName} {bytes cc : ByteArray} {maxL nL mc ms n index : Nat} {ret : Option FieldType} {ws : List Cond} {rm : Room} {Pc : Array Value → State → Prop} {Qc : Array Value → State → Outcome → State → Prop} {XC : String → State → State → Prop} {free : Addr → Prop} {Ts : List Cond} {own C : String} {b : Addr} {As rest : List Value} {g : JFrame}
theorem vx_callBack (cb : CallB R s args own index y bytes maxL ret ws rm mc ms n) (hM : vx_Met l y ws rm Pc Qc XC mc ms free) (hbl : FrameBlind Pc) : vx_Back l R p e below s args y 3 8 (PreOf R mc ms Pc) (PostOf Qc mc ms free) (vx_Post XC mc ms free) := by
  obtain ⟨hrc, hrs, hfr, hlo, hws, hcw, -, hini, -⟩ := cb
  exact vx_back (bytes := bytes) (maxL := maxL) (ret := ret) hM hbl hrc hrs hfr hlo hws hcw (fun a' U hW => word_at hW (Or.inl (by first | rfl | simp [Cond.onTables, Cond.keeps, Cond.steady])) hini)
theorem vx_runV (S : CallFix p m c cc nL s args Ts own) (hM : vx_Met l y ws rm Pc Qc XC mc ms free) (cw : CallW R s args own C index y bytes maxL ret ws rm mc ms n) (hp : PreV s H C b Pc As)
    (hg : g.method = m) (hn : As.length = n) (hsize : g.locals.size = nL) (hstack : g.stack = As.reverse ++ .ref b :: rest) (hW : 2 * g.monitorRoom + (rest.map fun v => v.category).sum ≤ 8) (hdg : decode cc g.pc = .ok (.invokevirtual index, 3)) (hf : cells + mc ≤ R.cells ∧ slots + ms ≤ R.slots) :
    vx_Run p l e R s m args below meth c H locs cells slots mc ms g rest (Qc (Value.ref b :: As).toArray) XC free := by
  have hK : vx_Back l R p e below s args y 3 8 (PreOf R mc ms Pc) (PostOf Qc mc ms free) (vx_Post XC mc ms free) := vx_callBack cw.1 hM hp.1
  obtain ⟨⟨-, -, -, -, -, -, hcode, -, hy, hlen, hl⟩, hin, hse⟩ := cw
  obtain ⟨hx, hb, hml, ho, -⟩ := S
  obtain ⟨-, ⟨cellB, hcB, hoB, hclB⟩, hPc⟩ := hp
  intro T hT X
  rcases vx_callV X hx (C := C) (bytes := bytes) (maxL := maxL) (ret := ret) ho hl hin hse hcode hy hK (by rw [hT]; exact hcB) hoB hclB hg (hsize.trans hml.symm) (argsL := As) (rest := rest) (fun sig h => hn.trans (hlen sig h)) hstack hW (by rw [hb]; exact hdg)
    (fun vm₁ hW₁ => ⟨hf.1, hf.2, hPc (T.setVm vm₁) hT hW₁⟩) with ⟨v, vm₁, ⟨U', l2, c2, s2⟩, hW₁, X', ⟨g', mk, t, L, e1, e2, hq, h1, hL, h2, h3⟩, st⟩ | ⟨q, vm₁, ⟨U', l2, c2, s2⟩, hW₁, X', ⟨g', mk, t, L, E, ce, e1, e2, hq, hce, hcv, hcl, h1, hL, h2, h3⟩, st⟩
  · dsimp only [Pt.U, Pt.locs, Pt.cells, Pt.slots] at X' e1 e2 h1 h2 h3 st
    subst h1; subst h2; subst h3
    exact Or.inl ⟨v, (T.setVm vm₁).calling g' mk (Value.ref b :: As).toArray, t, U', L, hT, X', hL, e1, e2, hq, st⟩
  · dsimp only [Pt.U, Pt.locs, Pt.cells, Pt.slots] at X' e1 e2 h1 h2 h3 st hcl
    subst h1; subst h2; subst h3
    exact Or.inr ⟨q, (T.setVm vm₁).calling g' mk (Value.ref b :: As).toArray, t, U', L, E, ce, hT, X', hL, e1, e2, hq, hce, hcv, vx_cls hW₁ hcl, st⟩
theorem vx_runS (S : CallFix p m c cc nL s args Ts own) (hM : vx_Met l y ws rm Pc Qc XC mc ms free) (cw : CallB R s args own index y bytes maxL ret ws rm mc ms n ∧ (Cond.static y).before args s = true) (hp : PreS s H Pc As)
    (hg : g.method = m) (hn : As.length = n) (hsize : g.locals.size = nL) (hstack : g.stack = As.reverse ++ rest) (hW : 2 * g.monitorRoom + (rest.map fun v => v.category).sum ≤ 8) (hdg : decode cc g.pc = .ok (.invokestatic index, 3)) (hf : cells + mc ≤ R.cells ∧ slots + ms ≤ R.slots) :
    vx_Run p l e R s m args below meth c H locs cells slots mc ms g rest (Qc As.toArray) XC free := by
  have hK : vx_Back l R p e below s args y 3 8 (PreOf R mc ms Pc) (PostOf Qc mc ms free) (vx_Post XC mc ms free) := vx_callBack cw.1 hM hp.1
  obtain ⟨⟨-, -, -, -, -, -, hcode, hini, hy, hlen, hl⟩, hstt⟩ := cw
  obtain ⟨hx, hb, hml, ho, -⟩ := S
  intro T hT X
  rcases vx_callS X hx (bytes := bytes) (maxL := maxL) (ret := ret) ho hl hstt hini hcode hy hK hg (hsize.trans hml.symm) (argsL := As) (rest := rest) (fun sig h => hn.trans (hlen sig h)) hstack hW (by rw [hb]; exact hdg)
    (fun vm₁ hW₁ => ⟨hf.1, hf.2, hp.2 (T.setVm vm₁) hT hW₁⟩) with ⟨v, vm₁, ⟨U', l2, c2, s2⟩, hW₁, X', ⟨g', mk, t, L, e1, e2, hq, h1, hL, h2, h3⟩, st⟩ | ⟨q, vm₁, ⟨U', l2, c2, s2⟩, hW₁, X', ⟨g', mk, t, L, E, ce, e1, e2, hq, hce, hcv, hcl, h1, hL, h2, h3⟩, st⟩
  · dsimp only [Pt.U, Pt.locs, Pt.cells, Pt.slots] at X' e1 e2 h1 h2 h3 st
    subst h1; subst h2; subst h3
    exact Or.inl ⟨v, (T.setVm vm₁).calling g' mk As.toArray, t, U', L, hT, X', hL, e1, e2, hq, st⟩
  · dsimp only [Pt.U, Pt.locs, Pt.cells, Pt.slots] at X' e1 e2 h1 h2 h3 st hcl
    subst h1; subst h2; subst h3
    exact Or.inr ⟨q, (T.setVm vm₁).calling g' mk As.toArray, t, U', L, E, ce, hT, X', hL, e1, e2, hq, hce, hcv, vx_cls hW₁ hcl, st⟩
end Runs
section Rows
variable {p : Program} {l : Launch} {e : Env} {R : Room} {s : State} {m : MethodId} {args : Array Value} {below : List Frame} {meth : Method} {c : Code} {H : Heap} {locs : List Loc} {cells slots : Nat} {Q : State → Prop}
variable {mc ms : Nat} {free : Addr → Prop} {A0 A1 : Nat → Prop} {H0 : Heap} {a : Array Value} {pc : Nat} {ls : Array Slot} {st0 rest : List Value}
theorem vx_keep {st₀ t T' : State} {L : List Loc} (h0 : st₀.heap = H) (e1 : T'.heap = t.heap) (hS : va_S A0 H0 H locs) (hA : ∀ q, q < H.size → A1 q → A0 q) (hf : ∀ q, free q → A0 q) (hL : ∀ q ∈ L, free q.base) (hF : va_F A1 st₀ t) :
    H.size ≤ T'.heap.size ∧ (∀ q : Nat, q < H.size → ¬ A1 q → T'.heap[q]? = H[q]?) ∧ va_S A0 H0 T'.heap (locs ++ L) := by
  obtain ⟨hz, hk⟩ := hF
  rw [h0] at hz hk
  exact ⟨by rw [e1]; exact hz, fun q h1 h2 => by rw [e1]; exact hk q h1 h2,
    ⟨Nat.le_trans hS.1 (by rw [e1]; exact hz), fun q h1 h2 => by rw [e1, hk q (Nat.lt_of_lt_of_le h1 hS.1) (fun z => h2 (hA q (Nat.lt_of_lt_of_le h1 hS.1) z))]; exact hS.2.1 q h1 h2, fun q hq => by
      rcases List.mem_append.mp hq with h | h
      · exact hS.2.2 q h
      · exact hf _ (hL q h)⟩⟩
theorem vx_calli {S SX : Type} {post : Int32 → S → Prop} {px : SX → Prop} {B : S → State → Prop} {BX : String → SX → State → Prop} {AX : Nat → Prop} (hr : vx_Run p l e R s m args below meth c H locs cells slots mc ms (F0 m pc ls st0) rest (va_Qi post B A1 a) (vx_X px BX AX) free) (hS : va_S A0 H0 H locs) (hA : ∀ q, q < H.size → A1 q → A0 q) (hf : ∀ q, free q → A0 q) (hAX : ∀ q, q < H.size → AX q → A0 q)
    (kx : ∀ (E : String) (ce : Cell) (q9 : Addr) (u : SX) (t : State) (H1 : Heap) (locs1 : List Loc), t.heap = H1 → s.vm.Alike t.vm → px u → BX E u t → H.size ≤ H1.size → (∀ q : Nat, q < H.size → ¬ AX q → H1[q]? = H[q]?) → va_S A0 H0 H1 locs1 → H1[q9]? = some ce → ce.vm = .none → s.vm.findClass E = some ce.cls → vx_W p l e R s m args below meth c H1 locs1 (cells + mc) (slots + ms) Q (F0 m pc ls rest) q9)
    (kk : ∀ (r : Int32) (u : S) (t : State) (H1 : Heap) (locs1 : List Loc), t.heap = H1 → s.vm.Alike t.vm → post r u → B u t → H.size ≤ H1.size → (∀ q : Nat, q < H.size → ¬ A1 q → H1[q]? = H[q]?) → va_S A0 H0 H1 locs1 → W p l e R s m args below meth c H1 locs1 (cells + mc) (slots + ms) Q (F0 m (pc + 3) ls (.int r :: rest))) : W p l e R s m args below meth c H locs cells slots Q (F0 m pc ls st0) := by
  intro T hT X
  rcases hr T hT X with ⟨v, st₀, t, T', L, h0, X', hL, e1, e2, ⟨⟨r, u, hv, hp, hb⟩, hF⟩, st⟩ | ⟨q, st₀, t, T', L, E, ce, h0, X', hL, e1, e2, ⟨u, hp, hb, hF⟩, hce, hcv, hcl, st⟩
  · cases hv
    obtain ⟨k1, k2, k3⟩ := vx_keep h0 e1 hS hA hf hL hF
    obtain ⟨t2, a1, b1⟩ := kk r u t T'.heap (locs ++ L) e1.symm (by rw [← e2]; exact X'.warmed.alike) hp hb k1 k2 k3 T' rfl X'
    exact ⟨t2, st t2 a1, b1⟩
  · obtain ⟨k1, k2, k3⟩ := vx_keep h0 e1 hS hAX hf hL hF
    obtain ⟨t2, a1, b1⟩ := kx E ce q u t T'.heap (locs ++ L) e1.symm (by rw [← e2]; exact X'.warmed.alike) hp hb k1 k2 k3 (by rw [e1]; exact hce) hcv hcl T' rfl X'
    exact ⟨t2, st.trans a1, b1⟩
theorem vx_calll {S SX : Type} {post : Int64 → S → Prop} {px : SX → Prop} {B : S → State → Prop} {BX : String → SX → State → Prop} {AX : Nat → Prop} (hr : vx_Run p l e R s m args below meth c H locs cells slots mc ms (F0 m pc ls st0) rest (va_Ql post B A1 a) (vx_X px BX AX) free) (hS : va_S A0 H0 H locs) (hA : ∀ q, q < H.size → A1 q → A0 q) (hf : ∀ q, free q → A0 q) (hAX : ∀ q, q < H.size → AX q → A0 q)
    (kx : ∀ (E : String) (ce : Cell) (q9 : Addr) (u : SX) (t : State) (H1 : Heap) (locs1 : List Loc), t.heap = H1 → s.vm.Alike t.vm → px u → BX E u t → H.size ≤ H1.size → (∀ q : Nat, q < H.size → ¬ AX q → H1[q]? = H[q]?) → va_S A0 H0 H1 locs1 → H1[q9]? = some ce → ce.vm = .none → s.vm.findClass E = some ce.cls → vx_W p l e R s m args below meth c H1 locs1 (cells + mc) (slots + ms) Q (F0 m pc ls rest) q9)
    (kk : ∀ (r : Int64) (u : S) (t : State) (H1 : Heap) (locs1 : List Loc), t.heap = H1 → s.vm.Alike t.vm → post r u → B u t → H.size ≤ H1.size → (∀ q : Nat, q < H.size → ¬ A1 q → H1[q]? = H[q]?) → va_S A0 H0 H1 locs1 → W p l e R s m args below meth c H1 locs1 (cells + mc) (slots + ms) Q (F0 m (pc + 3) ls (.long r :: rest))) : W p l e R s m args below meth c H locs cells slots Q (F0 m pc ls st0) := by
  intro T hT X
  rcases hr T hT X with ⟨v, st₀, t, T', L, h0, X', hL, e1, e2, ⟨⟨r, u, hv, hp, hb⟩, hF⟩, st⟩ | ⟨q, st₀, t, T', L, E, ce, h0, X', hL, e1, e2, ⟨u, hp, hb, hF⟩, hce, hcv, hcl, st⟩
  · cases hv
    obtain ⟨k1, k2, k3⟩ := vx_keep h0 e1 hS hA hf hL hF
    obtain ⟨t2, a1, b1⟩ := kk r u t T'.heap (locs ++ L) e1.symm (by rw [← e2]; exact X'.warmed.alike) hp hb k1 k2 k3 T' rfl X'
    exact ⟨t2, st t2 a1, b1⟩
  · obtain ⟨k1, k2, k3⟩ := vx_keep h0 e1 hS hAX hf hL hF
    obtain ⟨t2, a1, b1⟩ := kx E ce q u t T'.heap (locs ++ L) e1.symm (by rw [← e2]; exact X'.warmed.alike) hp hb k1 k2 k3 (by rw [e1]; exact hce) hcv hcl T' rfl X'
    exact ⟨t2, st.trans a1, b1⟩
theorem vx_callf {S SX : Type} {post : UInt32 → S → Prop} {px : SX → Prop} {B : S → State → Prop} {BX : String → SX → State → Prop} {AX : Nat → Prop} (hr : vx_Run p l e R s m args below meth c H locs cells slots mc ms (F0 m pc ls st0) rest (va_Qf post B A1 a) (vx_X px BX AX) free) (hS : va_S A0 H0 H locs) (hA : ∀ q, q < H.size → A1 q → A0 q) (hf : ∀ q, free q → A0 q) (hAX : ∀ q, q < H.size → AX q → A0 q)
    (kx : ∀ (E : String) (ce : Cell) (q9 : Addr) (u : SX) (t : State) (H1 : Heap) (locs1 : List Loc), t.heap = H1 → s.vm.Alike t.vm → px u → BX E u t → H.size ≤ H1.size → (∀ q : Nat, q < H.size → ¬ AX q → H1[q]? = H[q]?) → va_S A0 H0 H1 locs1 → H1[q9]? = some ce → ce.vm = .none → s.vm.findClass E = some ce.cls → vx_W p l e R s m args below meth c H1 locs1 (cells + mc) (slots + ms) Q (F0 m pc ls rest) q9)
    (kk : ∀ (r : UInt32) (u : S) (t : State) (H1 : Heap) (locs1 : List Loc), t.heap = H1 → s.vm.Alike t.vm → post r u → B u t → H.size ≤ H1.size → (∀ q : Nat, q < H.size → ¬ A1 q → H1[q]? = H[q]?) → va_S A0 H0 H1 locs1 → W p l e R s m args below meth c H1 locs1 (cells + mc) (slots + ms) Q (F0 m (pc + 3) ls (.float r :: rest))) : W p l e R s m args below meth c H locs cells slots Q (F0 m pc ls st0) := by
  intro T hT X
  rcases hr T hT X with ⟨v, st₀, t, T', L, h0, X', hL, e1, e2, ⟨⟨r, u, hv, hp, hb⟩, hF⟩, st⟩ | ⟨q, st₀, t, T', L, E, ce, h0, X', hL, e1, e2, ⟨u, hp, hb, hF⟩, hce, hcv, hcl, st⟩
  · cases hv
    obtain ⟨k1, k2, k3⟩ := vx_keep h0 e1 hS hA hf hL hF
    obtain ⟨t2, a1, b1⟩ := kk r u t T'.heap (locs ++ L) e1.symm (by rw [← e2]; exact X'.warmed.alike) hp hb k1 k2 k3 T' rfl X'
    exact ⟨t2, st t2 a1, b1⟩
  · obtain ⟨k1, k2, k3⟩ := vx_keep h0 e1 hS hAX hf hL hF
    obtain ⟨t2, a1, b1⟩ := kx E ce q u t T'.heap (locs ++ L) e1.symm (by rw [← e2]; exact X'.warmed.alike) hp hb k1 k2 k3 (by rw [e1]; exact hce) hcv hcl T' rfl X'
    exact ⟨t2, st.trans a1, b1⟩
theorem vx_calld {S SX : Type} {post : UInt64 → S → Prop} {px : SX → Prop} {B : S → State → Prop} {BX : String → SX → State → Prop} {AX : Nat → Prop} (hr : vx_Run p l e R s m args below meth c H locs cells slots mc ms (F0 m pc ls st0) rest (va_Qd post B A1 a) (vx_X px BX AX) free) (hS : va_S A0 H0 H locs) (hA : ∀ q, q < H.size → A1 q → A0 q) (hf : ∀ q, free q → A0 q) (hAX : ∀ q, q < H.size → AX q → A0 q)
    (kx : ∀ (E : String) (ce : Cell) (q9 : Addr) (u : SX) (t : State) (H1 : Heap) (locs1 : List Loc), t.heap = H1 → s.vm.Alike t.vm → px u → BX E u t → H.size ≤ H1.size → (∀ q : Nat, q < H.size → ¬ AX q → H1[q]? = H[q]?) → va_S A0 H0 H1 locs1 → H1[q9]? = some ce → ce.vm = .none → s.vm.findClass E = some ce.cls → vx_W p l e R s m args below meth c H1 locs1 (cells + mc) (slots + ms) Q (F0 m pc ls rest) q9)
    (kk : ∀ (r : UInt64) (u : S) (t : State) (H1 : Heap) (locs1 : List Loc), t.heap = H1 → s.vm.Alike t.vm → post r u → B u t → H.size ≤ H1.size → (∀ q : Nat, q < H.size → ¬ A1 q → H1[q]? = H[q]?) → va_S A0 H0 H1 locs1 → W p l e R s m args below meth c H1 locs1 (cells + mc) (slots + ms) Q (F0 m (pc + 3) ls (.double r :: rest))) : W p l e R s m args below meth c H locs cells slots Q (F0 m pc ls st0) := by
  intro T hT X
  rcases hr T hT X with ⟨v, st₀, t, T', L, h0, X', hL, e1, e2, ⟨⟨r, u, hv, hp, hb⟩, hF⟩, st⟩ | ⟨q, st₀, t, T', L, E, ce, h0, X', hL, e1, e2, ⟨u, hp, hb, hF⟩, hce, hcv, hcl, st⟩
  · cases hv
    obtain ⟨k1, k2, k3⟩ := vx_keep h0 e1 hS hA hf hL hF
    obtain ⟨t2, a1, b1⟩ := kk r u t T'.heap (locs ++ L) e1.symm (by rw [← e2]; exact X'.warmed.alike) hp hb k1 k2 k3 T' rfl X'
    exact ⟨t2, st t2 a1, b1⟩
  · obtain ⟨k1, k2, k3⟩ := vx_keep h0 e1 hS hAX hf hL hF
    obtain ⟨t2, a1, b1⟩ := kx E ce q u t T'.heap (locs ++ L) e1.symm (by rw [← e2]; exact X'.warmed.alike) hp hb k1 k2 k3 (by rw [e1]; exact hce) hcv hcl T' rfl X'
    exact ⟨t2, st.trans a1, b1⟩
theorem vx_callv {S SX : Type} {post : S → Prop} {px : SX → Prop} {B : S → State → Prop} {BX : String → SX → State → Prop} {AX : Nat → Prop} (hr : vx_Run p l e R s m args below meth c H locs cells slots mc ms (F0 m pc ls st0) rest (va_Qv post B A1 a) (vx_X px BX AX) free) (hS : va_S A0 H0 H locs) (hA : ∀ q, q < H.size → A1 q → A0 q) (hf : ∀ q, free q → A0 q) (hAX : ∀ q, q < H.size → AX q → A0 q)
    (kx : ∀ (E : String) (ce : Cell) (q9 : Addr) (u : SX) (t : State) (H1 : Heap) (locs1 : List Loc), t.heap = H1 → s.vm.Alike t.vm → px u → BX E u t → H.size ≤ H1.size → (∀ q : Nat, q < H.size → ¬ AX q → H1[q]? = H[q]?) → va_S A0 H0 H1 locs1 → H1[q9]? = some ce → ce.vm = .none → s.vm.findClass E = some ce.cls → vx_W p l e R s m args below meth c H1 locs1 (cells + mc) (slots + ms) Q (F0 m pc ls rest) q9)
    (kk : ∀ (u : S) (t : State) (H1 : Heap) (locs1 : List Loc), t.heap = H1 → s.vm.Alike t.vm → post u → B u t → H.size ≤ H1.size → (∀ q : Nat, q < H.size → ¬ A1 q → H1[q]? = H[q]?) → va_S A0 H0 H1 locs1 → W p l e R s m args below meth c H1 locs1 (cells + mc) (slots + ms) Q (F0 m (pc + 3) ls (rest))) : W p l e R s m args below meth c H locs cells slots Q (F0 m pc ls st0) := by
  intro T hT X
  rcases hr T hT X with ⟨v, st₀, t, T', L, h0, X', hL, e1, e2, ⟨⟨u, hv, hp, hb⟩, hF⟩, st⟩ | ⟨q, st₀, t, T', L, E, ce, h0, X', hL, e1, e2, ⟨u, hp, hb, hF⟩, hce, hcv, hcl, st⟩
  · cases hv
    obtain ⟨k1, k2, k3⟩ := vx_keep h0 e1 hS hA hf hL hF
    obtain ⟨t2, a1, b1⟩ := kk u t T'.heap (locs ++ L) e1.symm (by rw [← e2]; exact X'.warmed.alike) hp hb k1 k2 k3 T' rfl X'
    exact ⟨t2, st t2 a1, b1⟩
  · obtain ⟨k1, k2, k3⟩ := vx_keep h0 e1 hS hAX hf hL hF
    obtain ⟨t2, a1, b1⟩ := kx E ce q u t T'.heap (locs ++ L) e1.symm (by rw [← e2]; exact X'.warmed.alike) hp hb k1 k2 k3 (by rw [e1]; exact hce) hcv hcl T' rfl X'
    exact ⟨t2, st.trans a1, b1⟩
end Rows
section Ends
variable {p : Program} {l : Launch} {e : Env} {R : Room} {s : State} {m : MethodId} {args : Array Value} {below : List Frame} {meth : Method} {c : Code} {H : Heap} {locs : List Loc} {cells slots : Nat} {Q : State → Prop}
variable {mc ms : Nat} {free : Addr → Prop} {A0 A1 : Nat → Prop} {H0 : Heap} {a : Array Value} {ls : Array Slot} {st0 rest : List Value}
variable {Qc : Array Value → State → Outcome → State → Prop} {XC : String → State → State → Prop}
/-- what a body that may throw owes at its end -/
def vx_MQ (below : List Frame) (Qc : Array Value → State → Outcome → State → Prop) (XC : String → State → State → Prop) (a : Array Value) (s : State) (mc ms : Nat) (free : Addr → Prop) : State → Prop := fun t =>
  ∃ o, t.status = .running ∧ Ended t below o ∧ vx_Q Qc XC mc ms free a s o t
theorem vx_ret {g : JFrame} {mc ms : Nat} (k : W p l e R s m args below meth c H locs cells slots (MQ below Qc args s mc ms free) g) : W p l e R s m args below meth c H locs cells slots (vx_MQ below Qc XC args s mc ms free) g := by
  intro T hT X
  obtain ⟨t, a1, o, b1, b2, b3, b4⟩ := k T hT X
  exact ⟨t, a1, o, b1, b2, Or.inl ⟨b3, b4⟩⟩
/-- not caught here: it goes on to the caller -/
theorem vx_widen {g : JFrame} {q : Addr} {k n : Nat} (h1 : cells ≤ k) (h2 : slots ≤ n) (kk : vx_W p l e R s m args below meth c H locs k n Q g q) : vx_W p l e R s m args below meth c H locs cells slots Q g q := fun T hT X => kk T hT (stand_widen X h1 h2)
theorem vx_out {pc : Nat} {E : String} {ce : Cell} {q : Addr} {mc ms : Nat} (hout : ∀ x ∈ c.exceptionTable.toList, covers x pc = false) (hlocks : meth.locks = false) (hcell : H[q]? = some ce) (hv : ce.vm = .none) (hcl : s.vm.findClass E = some ce.cls)
    (hx : ∀ t : State, t.heap = H → s.vm.Alike t.vm → XC E s t) (hf : ∀ z ∈ locs, free z.base) (hc : cells ≤ mc) (hs : slots ≤ ms) :
    vx_W p l e R s m args below meth c H locs cells slots (vx_MQ below Qc XC args s mc ms free) (F0 m pc ls rest) q := by
  intro T hT X
  obtain ⟨st1, hrun, hend, hW, hsm⟩ := X.leaveThrown q (g := F0 m pc ls rest) rfl rfl rfl hout hlocks
  have hcell9 : (T.setFrames (.throwing q :: below)).heap[q]? = some ce := by
    show T.heap[q]? = some ce
    rw [hT]; exact hcell
  exact ⟨_, st1, .threw q, hrun, hend, Or.inr ⟨q, rfl, E, ce, locs, hx _ hT hW.alike, hcell9, hv, hcl, hW, hsm.mono hc hs, hf⟩⟩
theorem vx_frame {U : State} {k n : Nat} (h : s.sameButNew ({ U with vm := s.vm } : State) locs k n) : s.heap.size ≤ U.heap.size ∧ ∀ q : Nat, q < s.heap.size → (∀ z ∈ locs, z.base ≠ q) → U.heap[q]? = s.heap[q]? := by
  obtain ⟨-, h2, -, -, -, h6⟩ := h
  refine ⟨h2, fun q hq hz => ?_⟩
  obtain ⟨c9, e1, e2, e3, e4⟩ := h6 q _ (Array.getElem?_eq_getElem hq)
  have hs : c9.slots = (s.heap[q]).slots := Array.ext_getElem? fun i => e4 i fun hm => hz _ hm rfl
  have h9 : c9 = s.heap[q] := by
    rw [hs] at e2
    exact e2
  have e5 : U.heap[q]? = some c9 := e1
  rw [e5, h9, Array.getElem?_eq_getElem hq]
/-- the words of a throw but the four that speak of the heap -/
def vx_no (w : Cond) : Bool := decide (w ≠ .isRef (.static Bundle.tN "UNASSIGNED_STACK" Bundle.steD)) && decide (w ≠ .isRef (.static Bundle.tN "SUPPRESSED_SENTINEL" Bundle.listD)) && decide (w ≠ .laysStatic Bundle.tN "UNASSIGNED_STACK" Bundle.steD) && decide (w ≠ .laysStatic Bundle.tN "SUPPRESSED_SENTINEL" Bundle.listD)
def vx_at0 (own : String) (ic : Nat) (X : String) (names : List String) : List Cond := (Bundle.ownAtoms0 own ic X names).filter vx_no
def vx_atS (own : String) (ic : Nat) (X : String) (names : List String) : List Cond := (Bundle.ownAtoms own ic X names).filter vx_no
/-- a word that the tables alone decide, or a good one -/
def vx_ot (w : Cond) : Bool := w.onTables || goodWord w
theorem vx_ot_at {args a' : Array Value} {s U : State} {w : Cond} (hW : s.WarmedH U.vm) (hvm : s.vm = U.vm) (hg : vx_ot w = true) (h : w.before args s = true) : w.before a' U = true := by
  simp only [vx_ot, Bool.or_eq_true] at hg
  rcases hg with hg | hg
  · exact va_tabs hg hvm h
  · exact word_at hW (good_of_word hg) h
/-- a list's words: the good ones out of the method's own list, the others by premises of their own -/
theorem vx_hat {args : Array Value} {s : State} {L B : List Cond} (h1 : ∀ w ∈ L.filter goodWord, w.before args s = true) (h2 : ∀ w ∈ L.filter (fun w => !goodWord w), w ∈ B) (h3 : ∀ w ∈ B, w.before args s = true) : ∀ w ∈ L, w.before args s = true := by
  intro w hw
  by_cases g : goodWord w = true
  · exact h1 w (List.mem_filter.mpr ⟨hw, g⟩)
  · refine h3 w (h2 w (List.mem_filter.mpr ⟨hw, ?_⟩))
    show (!goodWord w) = true
    cases hgw : goodWord w
    · rfl
    · exact absurd hgw g
theorem vx_c {args : Array Value} {s : State} {w : Cond} {B : List Cond} (h : w.before args s = true) (t : ∀ w ∈ B, w.before args s = true) : ∀ w' ∈ w :: B, w'.before args s = true := fun w' h' => (List.mem_cons.mp h').elim (fun e => by rw [e]; exact h) (t w')
theorem vx_n {args : Array Value} {s : State} : ∀ w ∈ ([] : List Cond), w.before args s = true := fun _ h => nomatch h
theorem vx_own {args : Array Value} {s : State} {L : List Cond} (h1 : ∀ w ∈ L.filter vx_no, w.before args s = true)
    (hU : (Cond.isRef (.static Bundle.tN "UNASSIGNED_STACK" Bundle.steD)).before args s = true) (hN : (Cond.isRef (.static Bundle.tN "SUPPRESSED_SENTINEL" Bundle.listD)).before args s = true)
    (lU : (Cond.laysStatic Bundle.tN "UNASSIGNED_STACK" Bundle.steD).before args s = true) (lN : (Cond.laysStatic Bundle.tN "SUPPRESSED_SENTINEL" Bundle.listD).before args s = true) : ∀ w ∈ L, w.before args s = true := by
  intro w hw
  by_cases e1 : w = .isRef (.static Bundle.tN "UNASSIGNED_STACK" Bundle.steD)
  · rw [e1]; exact hU
  · by_cases e2 : w = .isRef (.static Bundle.tN "SUPPRESSED_SENTINEL" Bundle.listD)
    · rw [e2]; exact hN
    · by_cases e3 : w = .laysStatic Bundle.tN "UNASSIGNED_STACK" Bundle.steD
      · rw [e3]; exact lU
      · by_cases e4 : w = .laysStatic Bundle.tN "SUPPRESSED_SENTINEL" Bundle.listD
        · rw [e4]; exact lN
        · exact h1 w (List.mem_filter.mpr ⟨hw, by unfold vx_no; rw [decide_eq_true e1, decide_eq_true e2, decide_eq_true e3, decide_eq_true e4]; rfl⟩)
/-- where a static field lies, its class's statics cell in H -/
def vx_L (C n d : String) (A : Nat → Prop) (U : State) (H : Heap) : Prop := ∃ (c : ClassId) (k : Class) (i : Nat) (f : Field) (a : Nat) (cell : Cell), U.vm.findClass C = some c ∧ U.fieldFound? C n d = some (c, k, i, f) ∧ f.isStatic = true ∧ k.statics = some a ∧ H[a]? = some cell ∧ cell.vm.isStatics = true ∧ cell.cls = c ∧ f.slot < cell.slots.size ∧ k.staticTypes[f.slot]? = some f.type ∧ ¬ A a
theorem vx_L.moved {C n d : String} {A : Nat → Prop} {u U : State} {H : Heap} (hvm : u.vm.Alike U.vm) (h : vx_L C n d A u H) : vx_L C n d A U H := by
  obtain ⟨c, k, i, f, a, cell, h1, h2, h3, h4, h5, h6, h7, h8, h9, h10⟩ := h
  obtain ⟨k', hi', he⟩ := State.fieldFound?_setVm hvm h2
  exact ⟨c, k', i, f, a, cell, by rw [hvm.findClass]; exact h1, hi', h3, by rw [he]; exact h4, h5, h6, h7, h8, by rw [he]; exact h9, h10⟩
theorem vx_L.kept {C n d : String} {A : Nat → Prop} {U : State} {H H1 : Heap} (h : vx_L C n d A U H) (hq : ∀ a : Nat, a < H.size → ¬ A a → H1[a]? = H[a]?) : vx_L C n d A U H1 := by
  obtain ⟨c, k, i, f, a, cell, h1, h2, h3, h4, h5, h6, h7, h8, h9, h10⟩ := h
  exact ⟨c, k, i, f, a, cell, h1, h2, h3, h4, by rw [hq a (Array.getElem?_eq_some_iff.mp h5).1 h10]; exact h5, h6, h7, h8, h9, h10⟩
theorem vx_L.narrow {C n d : String} {A B : Nat → Prop} {U : State} {H : Heap} (h : vx_L C n d A U H) (hAB : ∀ q, B q → A q) : vx_L C n d B U H := by
  obtain ⟨c, k, i, f, a, cell, h1, h2, h3, h4, h5, h6, h7, h8, h9, h10⟩ := h
  exact ⟨c, k, i, f, a, cell, h1, h2, h3, h4, h5, h6, h7, h8, h9, fun z => h10 (hAB _ z)⟩
theorem vx_L.word {C n d : String} {A : Nat → Prop} {s : State} {args : Array Value} (h : vx_L C n d A s s.heap) : (Cond.laysStatic C n d).before args s = true := by
  obtain ⟨c, k, i, f, a, cell, h1, h2, h3, h4, h5, h6, h7, h8, h9, -⟩ := h
  show (Cond.laysStatic C n d).holds args s none s [] = true
  exact Cond.laysStatic_of h1 h2 h3 h4 h5 h6 h7 h8 h9
/-- .. and what it holds: null or some reference -/
def vx_Zq (C n d : String) (A : Nat → Prop) (U : State) (H : Heap) : Prop := va_Zq C n d A U H ∧ vx_L C n d A U H
theorem vx_Zq.moved {C n d : String} {A : Nat → Prop} {u U : State} {H : Heap} (hvm : u.vm.Alike U.vm) (h : vx_Zq C n d A u H) : vx_Zq C n d A U H := ⟨va_Zq.moved hvm h.1, vx_L.moved hvm h.2⟩
theorem vx_Zq.kept {C n d : String} {A : Nat → Prop} {U : State} {H H1 : Heap} (h : vx_Zq C n d A U H) (hq : ∀ a : Nat, a < H.size → ¬ A a → H1[a]? = H[a]?) : vx_Zq C n d A U H1 := ⟨va_Zq.kept h.1 hq, vx_L.kept h.2 hq⟩
theorem vx_Zq.narrow {C n d : String} {A B : Nat → Prop} {U : State} {H : Heap} (h : vx_Zq C n d A U H) (hAB : ∀ q, B q → A q) : vx_Zq C n d B U H := ⟨va_Zq.narrow h.1 hAB, vx_L.narrow h.2 hAB⟩
theorem vx_Zqof {args : Array Value} {s : State} {C n d : String} {A : Nat → Prop} (hl : (Cond.laysStatic C n d).before args s = true) (hini : (Cond.initialized C).before args s = true) (h : (Cond.isRef (.static C n d)).before args s = true) (hA : ∀ a : Nat, a < s.heap.size → ¬ A a) : vx_Zq C n d A s s.heap := by
  refine ⟨va_Zqof hl hini h hA, ?_⟩
  obtain ⟨c, k, i, f, a, cell, h1, h2, h3, h4, h5, h6, h7, h8, h9⟩ := Cond.laysStatic_spec hl
  exact ⟨c, k, i, f, a, cell, h1, h2, h3, h4, h5, h6, h7, h8, h9, hA a (Array.getElem?_eq_some_iff.mp h5).1⟩
theorem vx_isRef {C n d : String} {v : Value} {A : Nat → Prop} {s : State} {args : Array Value} (h : va_Z C n d v A s s.heap) (hv : v.isRef = true) : (Cond.isRef (.static C n d)).before args s = true := by
  obtain ⟨cf, kf, fi, f, a, cell, h1, h2, h3, h4, h5, h6, h7, -⟩ := h
  have he : (Term.static C n d).eval args s none [] s = some v := by
    simp [Term.eval, State.fieldNamed?, h1, h2, h4, h5, h6, h7]
  simp only [Cond.before, Cond.holds, Cond.value, he]
  cases v <;> simp_all [Value.isRef]
theorem vx_isRefq {C n d : String} {A : Nat → Prop} {s : State} {args : Array Value} (h : va_Zq C n d A s s.heap) : (Cond.isRef (.static C n d)).before args s = true := by
  rcases h with h | ⟨t, h⟩
  · exact vx_isRef h rfl
  · exact vx_isRef h rfl
/-- the same frame, seen from here: as if the method were called anew in this heap -/
theorem vx_rebase {T : State} (X : Stand p l e R s m args below meth c T locs cells slots) {R' : Room} (hf : R'.frames ≤ R.frames) (hl : R'.locals ≤ R.locals) (hc : cells + R'.cells ≤ R.cells) (hs : slots + R'.slots ≤ R.slots) :
    Stand p l e R' ((T.setVm s.vm).setFrames (.invoking m args :: below)) m args below meth c T [] 0 0 := by
  have htop : (T.setVm s.vm).topJava?.isSome := X.here.top
  have hF : ((T.setVm s.vm).setFrames (.invoking m args :: below)).frames = .invoking m args :: below := State.frames_setFrames _ (State.cur_lt_of_top htop)
  obtain ⟨g₀, hg0⟩ := Option.isSome_iff_exists.mp htop
  obtain ⟨r, hr⟩ := State.topJava?_eq_some.mp hg0
  have hl9 : e.platform.stackLimits (T.setVm s.vm).me = e.platform.stackLimits s.me := X.limits
  have hb9 : (T.setVm s.vm).me.stackBytes = s.me.stackBytes := X.bytes
  refine ⟨X.admits, X.cas, X.clock, hF, ?_, X.hears, X.method, X.code, X.here, X.tail, X.warmed, ?_, ?_, ?_⟩
  · have h := X.room
    have hU : ((T.setVm s.vm).setFrames (.invoking m args :: below)).localsInUse = s.localsInUse := by
      rw [State.localsInUse_invoking hF (meth := meth) (c := c) X.method X.code, State.localsInUse_invoking X.frames X.method X.code]
    simp only [State.hasRoom, Bool.and_eq_true, decide_eq_true_eq] at h ⊢
    obtain ⟨⟨⟨⟨h1, h2, h3, h4, h5, h6⟩, h7⟩, h8⟩, h9⟩ := h
    rw [X.frames, List.length_cons] at h2 h3
    have q1 := X.heapSize
    have q2 := X.used
    simp only [hF, hU, List.length_cons, State.stackLimits_setFrames, State.stackBytes_setFrames, hl9, hb9]
    refine ⟨⟨⟨⟨by omega, by omega, by omega, by omega, by omega, h6⟩, ?_⟩, ?_⟩, X.book⟩
    · show T.heap.size + R'.cells ≤ e.platform.maxCells
      omega
    · show T.slotsUsed + R'.slots ≤ e.platform.maxSlots
      omega
  · rw [State.stackLimits_setFrames]; rfl
  · rw [State.stackBytes_setFrames]; rfl
  · refine ⟨?_, Nat.le_refl _, Nat.le_refl _, ?_, ?_, fun a c9 h9 => ⟨c9, h9, rfl, rfl, fun _ _ => rfl⟩⟩
    · obtain ⟨t, ht, -⟩ := State.frames_cons hr
      show T.setVm s.vm = { ((T.setVm s.vm).setFrames (.invoking m args :: below)).setFrames (T.setVm s.vm).frames with heap := T.heap, slotsUsed := T.slotsUsed }
      rw [State.setFrames_setFrames, State.setFrames_self ht]
      rfl
    · show T.slotsUsed = T.slotsUsed + ((T.heap.toList.drop T.heap.size).map (·.slots.size)).sum
      rw [List.drop_eq_nil_of_le (Nat.le_of_eq Array.length_toList)]
      rfl
    · show ((T.heap.toList.drop T.heap.size).map (·.slots.size)).sum ≤ 0
      rw [List.drop_eq_nil_of_le (Nat.le_of_eq Array.length_toList)]
      exact Nat.le_refl _
/-- 'throw new E()': new; dup; invokespecial; athrow -/
theorem vx_throw0 {cc : ByteArray} {pc : Nat} (hexec : p.tables.exec = Jvm.exec) (hb : c.code = cc) (hl : l.stackTraces = false) {own cls : String} {names : List String} {ik ic mc ms : Nat} {A : Nat → Prop}
    (hown : s.vm.findClass own = some m.cls) (hcls : Bundle.fit cls = true) (hnames : ∀ n ∈ names, Bundle.fit n = true)
    (hk : (Cond.classLink own ik cls).before args s = true) (hini : (Cond.initialized cls).before args s = true) (hat : ∀ w ∈ vx_at0 own ic cls names, w.before args s = true)
    (hgood : ∀ w ∈ Cond.classLink own ik cls :: Cond.initialized cls :: vx_at0 own ic cls names, vx_ot w = true)
    (hU : vx_Zq Bundle.tN "UNASSIGNED_STACK" Bundle.steD A s s.heap) (hN : vx_Zq Bundle.tN "SUPPRESSED_SENTINEL" Bundle.listD A s s.heap) (hS : va_S A s.heap H locs) (hsize : ls.size = c.maxLocals)
    (d0 : decode cc pc = .ok (.new ik, 3)) (d3 : decode cc (pc + 3) = .ok (.dup, 1)) (d4 : decode cc (pc + 4) = .ok (.invokespecial ic, 3)) (d7 : decode cc (pc + 7) = .ok (.athrow, 1))
    (hout : ∀ x ∈ c.exceptionTable.toList, covers x (pc + 7) = false)
    (hRframes : names.length + 3 < R.frames) (hRlocals : (rest.map fun v => v.category).sum + (13 * (names.length + 1) + 42) ≤ R.locals) (hRcells : cells + 1 ≤ R.cells) (hRslots : slots + 6 ≤ R.slots) (hlocks : meth.locks = false)
    (hx : ∀ t : State, s.vm.Alike t.vm → H.size ≤ t.heap.size → (∀ q : Nat, q < H.size → t.heap[q]? = H[q]?) → XC cls s t)
    (hf : ∀ z ∈ locs, free z.base) (hc : cells + 1 ≤ mc) (hs : slots + 6 ≤ ms) :
    W p l e R s m args below meth c H locs cells slots (vx_MQ below Qc XC args s mc ms free) (F0 m pc ls rest) := by
  intro T hT X
  have htr : e.platform.stackTraces = false := (show e.platform.stackTraces = l.stackTraces by rw [X.admits.platform]).trans hl
  have Y := vx_rebase X (R' := { frames := R.frames, locals := R.locals, cells := 1, slots := 6 }) (Nat.le_refl _) (Nat.le_refl _) hRcells hRslots
  obtain ⟨s', hA⟩ : ∃ z, z = (T.setVm s.vm).setFrames (.invoking m args :: below) := ⟨_, rfl⟩
  rw [← hA] at Y
  have hvm : s'.vm = s.vm := by rw [hA]; rfl
  have hhp : s'.heap = H := by rw [hA]; exact hT
  have hW0 : s.WarmedH s'.vm := by rw [hvm]; exact State.WarmedH.refl s
  have hat' : ∀ w ∈ vx_at0 own ic cls names, w.before args s' = true := fun w hw => vx_ot_at hW0 hvm.symm (hgood w (List.mem_cons_of_mem _ (List.mem_cons_of_mem _ hw))) (hat w hw)
  have hk' : (Cond.classLink own ik cls).before args s' = true := vx_ot_at hW0 hvm.symm (hgood _ List.mem_cons_self) hk
  have hini' : (Cond.initialized cls).before args s' = true := vx_ot_at hW0 hvm.symm (hgood _ (List.mem_cons_of_mem _ List.mem_cons_self)) hini
  have hU' : vx_Zq Bundle.tN "UNASSIGNED_STACK" Bundle.steD A s' s'.heap := by rw [hhp]; exact vx_Zq.moved hW0.alike (hU.kept hS.2.1)
  have hN' : vx_Zq Bundle.tN "SUPPRESSED_SENTINEL" Bundle.listD A s' s'.heap := by rw [hhp]; exact vx_Zq.moved hW0.alike (hN.kept hS.2.1)
  have h : ∀ w ∈ Bundle.ownAtoms0 own ic cls names, w.before args s' = true := vx_own hat' (vx_isRefq hU'.1) (vx_isRefq hN'.1) hU'.2.word hN'.2.word
  have hown' : s'.vm.findClass own = some m.cls := by rw [hvm]; exact hown
  have hins : (Cond.instantiable cls 6).before args s' = true := h _ (by simp [Bundle.ownAtoms0])
  obtain ⟨vm₁, cX, kX, hfX, hkX, -, -, X₁, st1⟩ := Y.newCold hexec (own := own) (C := cls) (index := ik) (n := 6) hown' hk' hins hini'
    (g := F0 m pc ls rest) rfl (by rw [hb]; exact d0) (Nat.le_refl _) (Nat.le_refl _)
  generalize hT1 : (T.setVm vm₁).pushCell { cls := cX, slots := kX.instanceTypes.map defaultValue, vm := .none } = T1 at X₁ st1
  have hcat : (Value.ref T.heap.size).category = 1 := rfl
  have hcellA : T1.heap[T.heap.size]? = some (freshCell cX kX) := by rw [← hT1]; exact State.heap_pushCell_size _ _
  have d3' : decode c.code (pc + 3) = .ok (.dup, 1) := by rw [hb]; exact d3
  obtain ⟨U, hsteps, hrun, hend, hW, hsame, ce, hce, hO⟩ := X₁.ctorThrow0 hexec htr (own := own) (cls := cls) (names := names) (ic := ic) hown' hcls hnames h (fun x hx => nomatch hx) hfX hkX hcellA (by rw [hhp, hT]; exact Nat.le_refl _)
    (g := { method := m, pc := pc + 4, locals := ls, stack := .ref T.heap.size :: .ref T.heap.size :: rest, locked := none }) rfl hsize rfl rfl (rest := rest) rfl
    (by rw [hb]; exact d4) (by rw [hb]; exact d7) hout hRframes (by simp only [List.map_cons, List.sum_cons, hcat]; omega) hlocks
  obtain ⟨f1, f2⟩ := vx_frame hsame
  rw [hhp] at f1 f2
  have hWs : s.WarmedH U.vm := State.WarmedH.trans hW0 hW
  have hcl : s.vm.findClass cls = some ce.cls := by
    have h9 := hO.cls
    rw [hvm] at h9
    exact h9
  have hall : s.sameButNew ({ U with vm := s.vm } : State) locs mc ms := by
    subst hA
    obtain ⟨e1, e2⟩ := hsame
    rw [State.setFrames_setFrames] at e1
    have h2 : (T.setVm s.vm).sameButNew ({ U with vm := s.vm } : State) [] (0 + 1) (0 + 6) := ⟨e1, e2⟩
    have h3 := X.same.trans h2
    rw [List.append_nil] at h3
    exact h3.mono hc hs
  refine ⟨U, ?_, .threw T.heap.size, hrun, hend, Or.inr ⟨T.heap.size, rfl, cls, ce, locs, hx U hWs.alike f1 (fun q hq => f2 q hq (fun z hz => nomatch hz)), hce, hO.vm, hcl, hWs, hall, hf⟩⟩
  refine st1 _ ?_
  show Steps p.tables e below (T1.setTop { method := m, pc := pc + 3, locals := ls, stack := .ref T.heap.size :: rest, locked := none }) _
  jvm_step X₁.here [X₁.here.top, hexec, d3', Value.category]
  exact hsteps
/-- 'throw new E("text")': new; dup; ldc; invokespecial; athrow -/
theorem vx_throwS {cc : ByteArray} {pc : Nat} (hexec : p.tables.exec = Jvm.exec) (hb : c.code = cc) (hl : l.stackTraces = false) {own cls text : String} {names : List String} {ik is ic mc ms sa : Nat} {A : Nat → Prop}
    (hown : s.vm.findClass own = some m.cls) (hcls : Bundle.fit cls = true) (hnames : ∀ n ∈ names, Bundle.fit n = true)
    (hk : (Cond.classLink own ik cls).before args s = true) (hini : (Cond.initialized cls).before args s = true) (hstr : vk_R own is text sa s) (hat : ∀ w ∈ vx_atS own ic cls names, w.before args s = true)
    (hgood : ∀ w ∈ Cond.classLink own ik cls :: Cond.initialized cls :: vx_atS own ic cls names, vx_ot w = true)
    (hU : vx_Zq Bundle.tN "UNASSIGNED_STACK" Bundle.steD A s s.heap) (hN : vx_Zq Bundle.tN "SUPPRESSED_SENTINEL" Bundle.listD A s s.heap) (hS : va_S A s.heap H locs) (hsize : ls.size = c.maxLocals)
    (d0 : decode cc pc = .ok (.new ik, 3)) (d3 : decode cc (pc + 3) = .ok (.dup, 1)) (d4 : decode cc (pc + 4) = .ok (.ldc is, 2)) (d6 : decode cc (pc + 6) = .ok (.invokespecial ic, 3)) (d9 : decode cc (pc + 9) = .ok (.athrow, 1))
    (hout : ∀ x ∈ c.exceptionTable.toList, covers x (pc + 9) = false)
    (hRframes : names.length + 3 < R.frames) (hRlocals : (rest.map fun v => v.category).sum + (13 * (names.length + 1) + 43) ≤ R.locals) (hRcells : cells + 1 ≤ R.cells) (hRslots : slots + 6 ≤ R.slots) (hlocks : meth.locks = false)
    (hx : ∀ t : State, s.vm.Alike t.vm → H.size ≤ t.heap.size → (∀ q : Nat, q < H.size → t.heap[q]? = H[q]?) → XC cls s t)
    (hf : ∀ z ∈ locs, free z.base) (hc : cells + 1 ≤ mc) (hs : slots + 6 ≤ ms) :
    W p l e R s m args below meth c H locs cells slots (vx_MQ below Qc XC args s mc ms free) (F0 m pc ls rest) := by
  intro T hT X
  have htr : e.platform.stackTraces = false := (show e.platform.stackTraces = l.stackTraces by rw [X.admits.platform]).trans hl
  have Y := vx_rebase X (R' := { frames := R.frames, locals := R.locals, cells := 1, slots := 6 }) (Nat.le_refl _) (Nat.le_refl _) hRcells hRslots
  obtain ⟨s', hA⟩ : ∃ z, z = (T.setVm s.vm).setFrames (.invoking m args :: below) := ⟨_, rfl⟩
  rw [← hA] at Y
  have hvm : s'.vm = s.vm := by rw [hA]; rfl
  have hhp : s'.heap = H := by rw [hA]; exact hT
  have hW0 : s.WarmedH s'.vm := by rw [hvm]; exact State.WarmedH.refl s
  have hat' : ∀ w ∈ vx_atS own ic cls names, w.before args s' = true := fun w hw => vx_ot_at hW0 hvm.symm (hgood w (List.mem_cons_of_mem _ (List.mem_cons_of_mem _ hw))) (hat w hw)
  have hk' : (Cond.classLink own ik cls).before args s' = true := vx_ot_at hW0 hvm.symm (hgood _ List.mem_cons_self) hk
  have hini' : (Cond.initialized cls).before args s' = true := vx_ot_at hW0 hvm.symm (hgood _ (List.mem_cons_of_mem _ List.mem_cons_self)) hini
  have hU' : vx_Zq Bundle.tN "UNASSIGNED_STACK" Bundle.steD A s' s'.heap := by rw [hhp]; exact vx_Zq.moved hW0.alike (hU.kept hS.2.1)
  have hN' : vx_Zq Bundle.tN "SUPPRESSED_SENTINEL" Bundle.listD A s' s'.heap := by rw [hhp]; exact vx_Zq.moved hW0.alike (hN.kept hS.2.1)
  have h : ∀ w ∈ Bundle.ownAtoms own ic cls names, w.before args s' = true := vx_own hat' (vx_isRefq hU'.1) (vx_isRefq hN'.1) hU'.2.word hN'.2.word
  have hown' : s'.vm.findClass own = some m.cls := by rw [hvm]; exact hown
  have hins : (Cond.instantiable cls 6).before args s' = true := h _ (by simp [Bundle.ownAtoms])
  obtain ⟨vm₁, cX, kX, hfX, hkX, -, -, X₁, st1⟩ := Y.newCold hexec (own := own) (C := cls) (index := ik) (n := 6) hown' hk' hins hini'
    (g := F0 m pc ls rest) rfl (by rw [hb]; exact d0) (Nat.le_refl _) (Nat.le_refl _)
  generalize hT1 : (T.setVm vm₁).pushCell { cls := cX, slots := kX.instanceTypes.map defaultValue, vm := .none } = T1 at X₁ st1
  have hcat : (Value.ref T.heap.size).category = 1 := rfl
  have hcellA : T1.heap[T.heap.size]? = some (freshCell cX kX) := by rw [← hT1]; exact State.heap_pushCell_size _ _
  have d3' : decode c.code (pc + 3) = .ok (.dup, 1) := by rw [hb]; exact d3
  have d4' : decode c.code (pc + 4) = .ok (.ldc is, 2) := by rw [hb]; exact d4
  have hstr' : vk_R own is text sa s' := vk_R.warm hW0 hstr
  obtain ⟨U, hsteps, hrun, hend, hW, hsame, ce, hce, hO⟩ := X₁.ctorThrowS hexec htr (own := own) (cls := cls) (names := names) (ic := ic) hown' hcls hnames h (fun x hx => nomatch hx) hfX hkX hcellA (by rw [hhp, hT]; exact Nat.le_refl _) (msg := .ref sa) rfl
    (g := { method := m, pc := pc + 6, locals := ls, stack := .ref sa :: .ref T.heap.size :: .ref T.heap.size :: rest, locked := none }) rfl hsize rfl rfl (rest := rest) rfl
    (by rw [hb]; exact d6) (by rw [hb]; exact d9) hout hRframes (by simp only [List.map_cons, List.sum_cons, hcat]; omega) hlocks
  obtain ⟨f1, f2⟩ := vx_frame hsame
  rw [hhp] at f1 f2
  have hWs : s.WarmedH U.vm := State.WarmedH.trans hW0 hW
  have hcl : s.vm.findClass cls = some ce.cls := by
    have h9 := hO.cls
    rw [hvm] at h9
    exact h9
  have hall : s.sameButNew ({ U with vm := s.vm } : State) locs mc ms := by
    subst hA
    obtain ⟨e1, e2⟩ := hsame
    rw [State.setFrames_setFrames] at e1
    have h2 : (T.setVm s.vm).sameButNew ({ U with vm := s.vm } : State) [] (0 + 1) (0 + 6) := ⟨e1, e2⟩
    have h3 := X.same.trans h2
    rw [List.append_nil] at h3
    exact h3.mono hc hs
  refine ⟨U, ?_, .threw T.heap.size, hrun, hend, Or.inr ⟨T.heap.size, rfl, cls, ce, locs, hx U hWs.alike f1 (fun q hq => f2 q hq (fun z hz => nomatch hz)), hce, hO.vm, hcl, hWs, hall, hf⟩⟩
  refine st1 _ ?_
  show Steps p.tables e below (T1.setTop { method := m, pc := pc + 3, locals := ls, stack := .ref T.heap.size :: rest, locked := none }) _
  jvm_step X₁.here [X₁.here.top, hexec, d3', Value.category]
  exact X₁.ldcString hexec (own := own) (text := text) (index := is) (a := sa) hown' hstr'.1 hstr'.2
    (g := { method := m, pc := pc + 4, locals := ls, stack := .ref T.heap.size :: .ref T.heap.size :: rest, locked := none }) rfl d4' _ hsteps
/-- 'throw new E("text")', the text by a wide index -/
theorem vx_throwSW {cc : ByteArray} {pc : Nat} (hexec : p.tables.exec = Jvm.exec) (hb : c.code = cc) (hl : l.stackTraces = false) {own cls text : String} {names : List String} {ik is ic mc ms sa : Nat} {A : Nat → Prop}
    (hown : s.vm.findClass own = some m.cls) (hcls : Bundle.fit cls = true) (hnames : ∀ n ∈ names, Bundle.fit n = true)
    (hk : (Cond.classLink own ik cls).before args s = true) (hini : (Cond.initialized cls).before args s = true) (hstr : vk_R own is text sa s) (hat : ∀ w ∈ vx_atS own ic cls names, w.before args s = true)
    (hgood : ∀ w ∈ Cond.classLink own ik cls :: Cond.initialized cls :: vx_atS own ic cls names, vx_ot w = true)
    (hU : vx_Zq Bundle.tN "UNASSIGNED_STACK" Bundle.steD A s s.heap) (hN : vx_Zq Bundle.tN "SUPPRESSED_SENTINEL" Bundle.listD A s s.heap) (hS : va_S A s.heap H locs) (hsize : ls.size = c.maxLocals)
    (d0 : decode cc pc = .ok (.new ik, 3)) (d3 : decode cc (pc + 3) = .ok (.dup, 1)) (d4 : decode cc (pc + 4) = .ok (.ldc_w is, 3)) (d7 : decode cc (pc + 7) = .ok (.invokespecial ic, 3)) (d10 : decode cc (pc + 10) = .ok (.athrow, 1))
    (hout : ∀ x ∈ c.exceptionTable.toList, covers x (pc + 10) = false)
    (hRframes : names.length + 3 < R.frames) (hRlocals : (rest.map fun v => v.category).sum + (13 * (names.length + 1) + 43) ≤ R.locals) (hRcells : cells + 1 ≤ R.cells) (hRslots : slots + 6 ≤ R.slots) (hlocks : meth.locks = false)
    (hx : ∀ t : State, s.vm.Alike t.vm → H.size ≤ t.heap.size → (∀ q : Nat, q < H.size → t.heap[q]? = H[q]?) → XC cls s t)
    (hf : ∀ z ∈ locs, free z.base) (hc : cells + 1 ≤ mc) (hs : slots + 6 ≤ ms) :
    W p l e R s m args below meth c H locs cells slots (vx_MQ below Qc XC args s mc ms free) (F0 m pc ls rest) := by
  intro T hT X
  have htr : e.platform.stackTraces = false := (show e.platform.stackTraces = l.stackTraces by rw [X.admits.platform]).trans hl
  have Y := vx_rebase X (R' := { frames := R.frames, locals := R.locals, cells := 1, slots := 6 }) (Nat.le_refl _) (Nat.le_refl _) hRcells hRslots
  obtain ⟨s', hA⟩ : ∃ z, z = (T.setVm s.vm).setFrames (.invoking m args :: below) := ⟨_, rfl⟩
  rw [← hA] at Y
  have hvm : s'.vm = s.vm := by rw [hA]; rfl
  have hhp : s'.heap = H := by rw [hA]; exact hT
  have hW0 : s.WarmedH s'.vm := by rw [hvm]; exact State.WarmedH.refl s
  have hat' : ∀ w ∈ vx_atS own ic cls names, w.before args s' = true := fun w hw => vx_ot_at hW0 hvm.symm (hgood w (List.mem_cons_of_mem _ (List.mem_cons_of_mem _ hw))) (hat w hw)
  have hk' : (Cond.classLink own ik cls).before args s' = true := vx_ot_at hW0 hvm.symm (hgood _ List.mem_cons_self) hk
  have hini' : (Cond.initialized cls).before args s' = true := vx_ot_at hW0 hvm.symm (hgood _ (List.mem_cons_of_mem _ List.mem_cons_self)) hini
  have hU' : vx_Zq Bundle.tN "UNASSIGNED_STACK" Bundle.steD A s' s'.heap := by rw [hhp]; exact vx_Zq.moved hW0.alike (hU.kept hS.2.1)
  have hN' : vx_Zq Bundle.tN "SUPPRESSED_SENTINEL" Bundle.listD A s' s'.heap := by rw [hhp]; exact vx_Zq.moved hW0.alike (hN.kept hS.2.1)
  have h : ∀ w ∈ Bundle.ownAtoms own ic cls names, w.before args s' = true := vx_own hat' (vx_isRefq hU'.1) (vx_isRefq hN'.1) hU'.2.word hN'.2.word
  have hown' : s'.vm.findClass own = some m.cls := by rw [hvm]; exact hown
  have hins : (Cond.instantiable cls 6).before args s' = true := h _ (by simp [Bundle.ownAtoms])
  obtain ⟨vm₁, cX, kX, hfX, hkX, -, -, X₁, st1⟩ := Y.newCold hexec (own := own) (C := cls) (index := ik) (n := 6) hown' hk' hins hini'
    (g := F0 m pc ls rest) rfl (by rw [hb]; exact d0) (Nat.le_refl _) (Nat.le_refl _)
  generalize hT1 : (T.setVm vm₁).pushCell { cls := cX, slots := kX.instanceTypes.map defaultValue, vm := .none } = T1 at X₁ st1
  have hcat : (Value.ref T.heap.size).category = 1 := rfl
  have hcellA : T1.heap[T.heap.size]? = some (freshCell cX kX) := by rw [← hT1]; exact State.heap_pushCell_size _ _
  have d3' : decode c.code (pc + 3) = .ok (.dup, 1) := by rw [hb]; exact d3
  have d4' : decode c.code (pc + 4) = .ok (.ldc_w is, 3) := by rw [hb]; exact d4
  have hstr' : vk_R own is text sa s' := vk_R.warm hW0 hstr
  obtain ⟨U, hsteps, hrun, hend, hW, hsame, ce, hce, hO⟩ := X₁.ctorThrowS hexec htr (own := own) (cls := cls) (names := names) (ic := ic) hown' hcls hnames h (fun x hx => nomatch hx) hfX hkX hcellA (by rw [hhp, hT]; exact Nat.le_refl _) (msg := .ref sa) rfl
    (g := { method := m, pc := pc + 7, locals := ls, stack := .ref sa :: .ref T.heap.size :: .ref T.heap.size :: rest, locked := none }) rfl hsize rfl rfl (rest := rest) rfl
    (by rw [hb]; exact d7) (by rw [hb]; exact d10) hout hRframes (by simp only [List.map_cons, List.sum_cons, hcat]; omega) hlocks
  obtain ⟨f1, f2⟩ := vx_frame hsame
  rw [hhp] at f1 f2
  have hWs : s.WarmedH U.vm := State.WarmedH.trans hW0 hW
  have hcl : s.vm.findClass cls = some ce.cls := by
    have h9 := hO.cls
    rw [hvm] at h9
    exact h9
  have hall : s.sameButNew ({ U with vm := s.vm } : State) locs mc ms := by
    subst hA
    obtain ⟨e1, e2⟩ := hsame
    rw [State.setFrames_setFrames] at e1
    have h2 : (T.setVm s.vm).sameButNew ({ U with vm := s.vm } : State) [] (0 + 1) (0 + 6) := ⟨e1, e2⟩
    have h3 := X.same.trans h2
    rw [List.append_nil] at h3
    exact h3.mono hc hs
  refine ⟨U, ?_, .threw T.heap.size, hrun, hend, Or.inr ⟨T.heap.size, rfl, cls, ce, locs, hx U hWs.alike f1 (fun q hq => f2 q hq (fun z hz => nomatch hz)), hce, hO.vm, hcl, hWs, hall, hf⟩⟩
  refine st1 _ ?_
  show Steps p.tables e below (T1.setTop { method := m, pc := pc + 3, locals := ls, stack := .ref T.heap.size :: rest, locked := none }) _
  jvm_step X₁.here [X₁.here.top, hexec, d3', Value.category]
  exact X₁.ldcStringW hexec (own := own) (text := text) (index := is) (a := sa) hown' hstr'.1 hstr'.2
    (g := { method := m, pc := pc + 4, locals := ls, stack := .ref T.heap.size :: .ref T.heap.size :: rest, locked := none }) rfl d4' _ hsteps
end Ends
section Bodies
variable {l : Launch}
theorem vx_ofW {y : MethodName} {ws ws' : List Cond} {rm : Room} {Pc : Array Value → State → Prop} {Qc : Array Value → State → Outcome → State → Prop} {XC : String → State → State → Prop} {mc ms : Nat} {free : Addr → Prop} {cc : ByteArray} {maxL : Nat} {ret : Option FieldType}
    (hy : plainName y.cls = true) (hw : ws = Cond.code y cc maxL ret :: ws')
    (body : ∀ p e s m args below meth c s₁, BodyLoose p l y (headSpec ws rm) cc maxL ret e s m args below meth c s₁ → c.maxLocals = maxL → (∀ x ∈ c.exceptionTable.toList, False) → Pc args s →
      W p l e (headSpec ws rm).room s m args below meth c s.heap [] 0 0 (vx_MQ below Qc XC args s mc ms free) (entryFrame m args maxL)) : vx_Met l y ws rm Pc Qc XC mc ms free := by
  refine MetFree.of_bodyS (code := cc) (maxLocals := maxL) (ret := ret) hy ?_ ?_
  · intro args s m h hn
    obtain ⟨meth, c, h1, h2, h3, h4, h5, h6, -, -⟩ := Cond.code_spec hn (atoms_spec (ws := ws) h _ (by rw [hw]; exact List.mem_cons_self))
    exact ⟨meth, c, h1, h2, h3, h4, h5, h6⟩
  · intro p e s m args below meth c s₁ B hml hP _
    have hh0 : s₁.heap = s.heap := by rw [B.state]; rfl
    have ht : ∀ x ∈ c.exceptionTable.toList, False := by
      obtain ⟨meth9, c9, h1, h2, -, -, -, -, h7, -⟩ := Cond.code_spec B.named (atoms_spec (ws := ws) B.pre _ (by rw [hw]; exact List.mem_cons_self))
      cases Option.some.inj (h1.symm.trans B.method)
      cases Option.some.inj (h2.symm.trans (Stand.of_body B).code)
      intro x hx
      rw [Array.isEmpty_iff.mp h7] at hx
      cases hx
    obtain ⟨t, a1, o, b1, b2, b3⟩ := body p e s m args below meth c s₁ B hml ht hP s₁ hh0 (Stand.of_body B)
    exact ⟨t, o, a1, b1, b2, b3⟩
/-- the table of a body with handlers -/
theorem vx_table {p : Program} {x y : MethodName} {S : Spec} {cc bytes : ByteArray} {maxL maxL' : Nat} {ret ret' : Option FieldType} {e : Env} {s s₁ : State} {m : MethodId} {args : Array Value} {below : List Frame} {meth : Method} {c : Code} {hh : List (Nat × Nat × Nat × Nat)}
    (B : BodyLoose p l y S cc maxL ret e s m args below meth c s₁) (h : (Cond.codeWith y bytes maxL' ret' hh).before args s = true) : c.exceptionTable.toList = tableOf hh := by
  obtain ⟨m9, meth9, c9, hn9, h1, h2, -, -, h6, -⟩ := Cond.codeWith_spec h
  cases Option.some.inj (hn9.symm.trans B.named)
  cases Option.some.inj (h1.symm.trans B.method)
  cases Option.some.inj (h2.symm.trans (Stand.of_body B).code)
  rw [← h6, table_eq]
end Bodies
end VXA
/-! ===== END ===== -/
/-! ===== BEGIN a static call of a method with an exception table ===== -/
section VXS
variable {p : Program} {l : Launch} {e : Env} {R : Room} {s : State} {m : MethodId} {args : Array Value} {below : List Frame} {meth : Method} {c : Code} {T : State} {H : Heap} {locs : List Loc} {cells slots : Nat}
abbrev vx_CSW (R : Room) (s : State) (args : Array Value) (own : String) (index : Nat) (y : MethodName) (bytes : ByteArray) (maxL : Nat) (ret : Option FieldType) (hh : List (Nat × Nat × Nat × Nat)) (ws : List Cond) (rm : Room) (mc ms n : Nat) : Prop :=
  (rm.cells = mc ∧ rm.slots = ms ∧ rm.frames + 1 ≤ R.frames ∧ 8 + (maxL + 11) + rm.locals ≤ R.locals ∧ (∀ w ∈ ws, ∀ (a' : Array Value) (U : State), s.WarmedH U.vm → w.before a' U = true) ∧ Cond.codeWith y bytes maxL ret hh ∈ ws) ∧
  (Cond.codeWith y bytes maxL ret hh).before args s = true ∧ (Cond.initialized y.cls).before args s = true ∧ (y.cls ≠ "java/lang/invoke/MethodHandle" ∧ y.cls ≠ "java/lang/invoke/VarHandle") ∧
  (∀ sig, parseMethodDescriptor y.desc = some sig → n = sig.parameters.length) ∧ (Cond.methodLink own index y).before args s = true ∧ (Cond.static y).before args s = true
theorem vx_cwSW {own : String} {index maxL mc ms : Nat} {y : MethodName} {bytes : ByteArray} {ret : Option FieldType} {hh : List (Nat × Nat × Nat × Nat)} {Ts ws ws' : List Cond} {rm : Room} (n : Nat) (ht : ∀ w ∈ Ts, w.before args s = true) (hT : GoodIn Ts (va_wsS own index y ws)) (hw : ws = Cond.codeWith y bytes maxL ret hh :: ws') (hrc : rm.cells = mc) (hrs : rm.slots = ms)
    (hd : y.cls ≠ "java/lang/invoke/MethodHandle" ∧ y.cls ≠ "java/lang/invoke/VarHandle" ∧ (parseMethodDescriptor y.desc).map (fun d => d.parameters.length) = some n) (hR : rm.frames + 1 ≤ R.frames ∧ 8 + (maxL + 11) + rm.locals ≤ R.locals) :
    vx_CSW R s args own index y bytes maxL ret hh ws rm mc ms n := by
  have ok : ∀ w ∈ va_wsS own index y ws, w.before args s = true := fun w h => ht w (hT w h).1
  have hG : GoodIn Ts ws := fun w h => hT w (by unfold va_wsS; exact List.mem_append_right _ h)
  have hc : Cond.codeWith y bytes maxL ret hh ∈ ws := by rw [hw]; exact List.mem_cons_self
  refine ⟨⟨hrc, hrs, hR.1, hR.2, pay_in ht hG, hc⟩, ht _ (hG _ hc).1, ok _ (by simp [va_wsS]), ⟨hd.1, hd.2.1⟩, fun sig h => ?_, ok _ (by simp [va_wsS]), ok _ (by simp [va_wsS])⟩
  have h2 := hd.2.2
  rw [h] at h2
  exact (Option.some.inj h2).symm
theorem vx_callSW (X : Stand p l e R s m args below meth c T locs cells slots) (hexec : p.tables.exec = Jvm.exec) {own : String} {index : Nat} {y : MethodName} {bytes : ByteArray} {maxL : Nat} {ret : Option FieldType} {hh : List (Nat × Nat × Nat × Nat)}
    (hown : s.vm.findClass own = some m.cls) (hlink : (Cond.methodLink own index y).before args s = true) (hstat : (Cond.static y).before args s = true) (hinit : (Cond.initialized y.cls).before args s = true)
    (hcode : (Cond.codeWith y bytes maxL ret hh).before args s = true) (hy : y.cls ≠ "java/lang/invoke/MethodHandle" ∧ y.cls ≠ "java/lang/invoke/VarHandle")
    {W9 : Nat} {Pre : Pt → Array Value → Prop} {Post : Pt → Array Value → Option Value → Pt → Prop} (hK : Back l R p e below s args y 3 W9 Pre Post)
    {g : JFrame} (hg : g.method = m) (hsize : g.locals.size = c.maxLocals) {argsL rest : List Value} (hlen : ∀ sig, parseMethodDescriptor y.desc = some sig → argsL.length = sig.parameters.length)
    (hstack : g.stack = argsL.reverse ++ rest) (hW : 2 * g.monitorRoom + (rest.map fun v => v.category).sum ≤ W9) (hdg : decode c.code g.pc = .ok (.invokestatic index, 3))
    (hpre : ∀ vm₁, s.WarmedH vm₁ → Pre ⟨T.setVm vm₁, locs, cells, slots⟩ argsL.toArray) :
    ∃ (v : Option Value) (vm₁ : Vm) (B : Pt), s.WarmedH vm₁ ∧ Stand p l e R s m args below meth c B.U B.locs B.cells B.slots ∧ Post ⟨T.setVm vm₁, locs, cells, slots⟩ argsL.toArray v B ∧
      ∀ target, Steps p.tables e below (B.U.setTop { g with pc := g.pc + 3, stack := v.toList ++ rest }) target → Steps p.tables e below (T.setTop g) target := by
  obtain ⟨mk, methM, cM, hnamed, hmethM, -, -, -, -, -, -, hsigM⟩ := Cond.codeWith_spec hcode
  have hstatic : methM.isStatic = true := Cond.static_spec hnamed hmethM hstat
  obtain ⟨kP, hkP, -⟩ := className_of_methodNamed hnamed
  have hinitP : kP.init = .initialized := Cond.initialized_spec (findClass_of_methodNamed hnamed) hkP hinit
  obtain ⟨vm₁, X₁, hstep₁⟩ := X.invokestatic hexec hown hlink hnamed hmethM hstatic hkP hinitP hy (g := g) hg (argsL := argsL) (rest := rest) (hlen _ hsigM) hstack hdg
  obtain ⟨v, B, X', hpost, hsteps⟩ := hK m meth c ⟨T.setVm vm₁, locs, cells, slots⟩ { g with stack := rest } (.invokestatic index) mk argsL.toArray X₁ hg hsize hdg hW (X₁.named hnamed) (hpre vm₁ X₁.warmed)
  exact ⟨v, vm₁, B, X₁.warmed, X', hpost, fun target h => hstep₁ _ fun acts => by rw [doInvoke_state]; exact hsteps.trans h⟩
theorem vx_runSW {y : MethodName} {bytes cc : ByteArray} {maxL nL mc ms n index : Nat} {ret : Option FieldType} {hh : List (Nat × Nat × Nat × Nat)} {ws : List Cond} {rm : Room} {Pc : Array Value → State → Prop} {Qc : Array Value → State → Outcome → State → Prop} {free : Addr → Prop} {Ts : List Cond} {own : String} {As rest : List Value} {g : JFrame}
    (S : CallFix p m c cc nL s args Ts own) (hM : Met l y ws rm Pc Qc mc ms free) (cw : vx_CSW R s args own index y bytes maxL ret hh ws rm mc ms n) (hp : PreS s H Pc As)
    (hg : g.method = m) (hn : As.length = n) (hsize : g.locals.size = nL) (hstack : g.stack = As.reverse ++ rest) (hW : 2 * g.monitorRoom + (rest.map fun v => v.category).sum ≤ 8) (hdg : decode cc g.pc = .ok (.invokestatic index, 3)) (hf : cells + mc ≤ R.cells ∧ slots + ms ≤ R.slots) :
    va_Run p l e R s m args below meth c H locs cells slots mc ms g rest (Qc As.toArray) (free) := by
  obtain ⟨⟨hrc, hrs, hfr, hlo, hws, hcw⟩, hcode, hini, hy, hlen, hl, hstt⟩ := cw
  have hK : Back l R p e below s args y 3 8 (PreOf R mc ms Pc) (PostOf Qc mc ms free) := va_backW (hh := hh) (bytes := bytes) (maxL := maxL) (ret := ret) hM hp.1 hrc hrs hfr hlo hws hcw (fun a' U hW => word_at hW (Or.inl (by first | rfl | simp [Cond.onTables, Cond.keeps, Cond.steady])) hini)
  obtain ⟨hx, hb, hml, ho, -⟩ := S
  intro T hT X
  obtain ⟨v, vm₁, ⟨U', l2, c2, s2⟩, hW₁, X', ⟨g', mk, t, L, e1, e2, hq, h1, hL, h2, h3⟩, st⟩ := vx_callSW X hx (hh := hh) (bytes := bytes) (maxL := maxL) (ret := ret) ho hl hstt hini hcode hy hK hg (hsize.trans hml.symm) (argsL := As) (rest := rest) (fun sig h => hn.trans (hlen sig h)) hstack hW (by rw [hb]; exact hdg)
    (fun vm₁ hW₁ => ⟨hf.1, hf.2, hp.2 (T.setVm vm₁) hT hW₁⟩)
  dsimp only [Pt.U, Pt.locs, Pt.cells, Pt.slots] at X' e1 e2 h1 h2 h3 st
  subst h1; subst h2; subst h3
  exact ⟨v, (T.setVm vm₁).calling g' mk As.toArray, t, U', L, hT, X', hL, e1, e2, hq, st⟩
/-- a thing of a world lies in the heap -/
theorem vx_lt {D : va_G} {cl : List vw_C} {ws : va_W} {H1 : Heap} (h : va_P D cl ws H1) {k : Nat} {q : Nat × va_E} (hk : ws[k]? = some q) : q.1 < H1.size := (h k q hk).lt
end VXS
/-! ===== END ===== -/
/-! ===== BEGIN methods with a table of their own: called by a name, returning or throwing ===== -/
section VXH
/-! vx_backW, vx_callVX, vx_callSX, vx_callVW, vx_runVW, vx_runVX, vx_runSX, vx_ofWH follow the same proofs as their sisters above (Free/Laws.lean, Shelf42/LK1.lean); vx_outP calls Shelf42/NT130.lean (outThrough). -/
section
variable {l : Launch} {R : Room} {p : Program} {e : Env} {below : List Frame} {s : State} {sargs : Array Value} {y : MethodName} {len W9 : Nat}
theorem vx_backW {ws : List Cond} {rm : Room} {Pc : Array Value → State → Prop} {Qc : Array Value → State → Outcome → State → Prop} {XC : String → State → State → Prop} {mc ms : Nat} {free : Addr → Prop} {bytes : ByteArray} {maxL : Nat} {ret : Option FieldType} {hh : List (Nat × Nat × Nat × Nat)}
    (hM : vx_Met l y ws rm Pc Qc XC mc ms free) (hblind : FrameBlind Pc) (hrc : rm.cells = mc) (hrs : rm.slots = ms)
    (hframes : rm.frames + 1 ≤ R.frames) (hlocals : W9 + (maxL + 11) + rm.locals ≤ R.locals)
    (hws : ∀ w ∈ ws, ∀ a' U, s.WarmedH U.vm → w.before a' U = true) (hcode : Cond.codeWith y bytes maxL ret hh ∈ ws) (hinit : ∀ a' U, s.WarmedH U.vm → (Cond.initialized y.cls).before a' U = true) :
    vx_Back l R p e below s sargs y len W9 (PreOf R mc ms Pc) (PostOf Qc mc ms free) (vx_Post XC mc ms free) := by
  intro m meth c A g ig mk a X hg hsize hdg hW hn hp
  have h1 : (headSpec ws rm).pre.before a A.U = true := atoms_intro fun w hw => hws w hw _ _ X.warmed
  have h2 : (Cond.codeWith y bytes maxL ret hh).before a A.U = true := hws _ hcode _ _ X.warmed
  have h3 : (Cond.initialized y.cls).before a A.U = true := hinit _ _ X.warmed
  have h4 : A.cells + (headSpec ws rm).room.cells ≤ R.cells := by rw [show (headSpec ws rm).room.cells = mc from hrc]; exact hp.1
  have h5 : A.slots + (headSpec ws rm).room.slots ≤ R.slots := by rw [show (headSpec ws rm).room.slots = ms from hrs]; exact hp.2.1
  have hPc : Pc a (A.U.calling g mk a) := hblind _ _ _ _ hp.2.2
  obtain ⟨U, Ls, c0, s0⟩ := A
  dsimp only [Pt.U, Pt.locs, Pt.cells, Pt.slots] at h1 h2 h3 h4 h5 X hn hPc ⊢
  obtain ⟨m9, methY, cY, hn9, hmY, hcY, -, hlY, -⟩ := Cond.codeWith_spec h2
  cases Option.some.inj (hn9.symm.trans hn)
  obtain ⟨kY, hkY, -⟩ := className_of_methodNamed hn
  have hinitY : kY.init = .initialized := Cond.initialized_spec (findClass_of_methodNamed hn) hkY h3
  have h : At U g.method c below := by rw [hg]; exact X.here
  have hlocals9 : W9 + (maxL + 11) + (headSpec ws rm).room.locals ≤ R.locals := hlocals
  have happ : (headSpec ws rm).appliesLoose y e.platform (U.calling g mk a) = true :=
    Spec.appliesLoose_calling (g := g) h hdg hn hkY hinitY
      (X.room_calling (g := g) (R' := (headSpec ws rm).room) hsize hmY hcY hframes (by rw [hlY]; omega) h4 h5) h1
  obtain ⟨mid, hmid⟩ := h.above
  have hfr : (U.setTop g).frames = (.java g :: mid) ++ below := by rw [State.frames_setTop' g h.top, hmid]; rfl
  obtain ⟨o, s₂, hsteps, -, hend, hq⟩ := Steps.callFree hM p X.admits X.cas X.clock (acts := []) hfr happ hPc trivial
  have hq' : vx_Q Qc XC mc ms free a (U.calling g mk a) o s₂ := hq
  rw [State.frames_setTop' g h.top] at hend
  obtain ⟨g₀, hg0⟩ := Option.isSome_iff_exists.mp h.top
  obtain ⟨r, hr⟩ := State.topJava?_eq_some.mp hg0
  have hr' : (({ U with heap := s₂.heap, slotsUsed := s₂.slotsUsed } : State).setVm s₂.vm).frames = .java g₀ :: r := hr
  rcases hq' with ⟨hqc, L, hfe, hL⟩ | ⟨q, rfl, E, ce, L, hx, hce, hcv, hcl, hW₂, hsm, hL⟩
  · obtain ⟨⟨v, rfl⟩, hW₂, e2, q2, q3, q4, q5, q6⟩ := id hfe
    have e3 : s₂ = ({ (U.calling g mk a).setFrames s₂.frames with heap := s₂.heap, slotsUsed := s₂.slotsUsed } : State).setVm s₂.vm := by
      have : s₂ = ({ s₂ with vm := (U.calling g mk a).vm } : State).setVm s₂.vm := rfl
      rw [e2] at this
      exact this
    obtain ⟨c₂, i₂, len₂, hc₂, hd₂, hf₂⟩ := hend
    have hW' : U.WarmedH s₂.vm := hW₂
    have hcc : c₂ = c := by
      have h1 : s₂.code? g.method = U.code? g.method := by
        rw [State.code?_eq, State.code?_eq, hW'.alike.method?]
      exact Option.some.inj (hc₂.symm.trans (h1.trans h.code))
    subst hcc
    have hlen : len₂ = len := by rw [hdg] at hd₂; cases hd₂; rfl
    subst hlen
    have hs₂ : s₂ = (({ U with heap := s₂.heap, slotsUsed := s₂.slotsUsed } : State).setVm s₂.vm).setTop { g with pc := g.pc + len₂, stack := v.toList ++ g.stack } := by
      refine e3.trans ?_
      rw [hf₂, State.calling_eq h.top, State.setFrames_setFrames, State.setTop_of_frames _ hr', hr]
      rfl
    have hsame : U.sameButNew ({ U with heap := s₂.heap, slotsUsed := s₂.slotsUsed } : State) L mc ms := by
      refine ⟨?_, q2, q3, q4, q5, q6⟩
      obtain ⟨t, ht, -⟩ := State.frames_cons hr
      show ({ U with heap := s₂.heap, slotsUsed := s₂.slotsUsed } : State) = { U.setFrames U.frames with heap := s₂.heap, slotsUsed := s₂.slotsUsed }
      rw [State.setFrames_self ht]
    subst hg
    refine Or.inl ⟨v, ⟨(({ U with heap := s₂.heap, slotsUsed := s₂.slotsUsed } : State).setVm s₂.vm), Ls ++ L, c0 + mc, s0 + ms⟩,
      ⟨X.admits, X.cas, X.clock, X.frames, X.room, X.hears, X.method, X.code, (X.here.setHeapUsed s₂.heap s₂.slotsUsed).setVm hW'.alike, X.tail, State.WarmedH.trans X.warmed hW', X.limits, X.bytes, X.same.trans (hsame.setVm s.vm)⟩,
      ⟨g, mk, s₂, L, rfl, rfl, hqc, rfl, hL, rfl, rfl⟩, ?_⟩
    show Steps p.tables e below _ ((({ U with heap := s₂.heap, slotsUsed := s₂.slotsUsed } : State).setVm s₂.vm).setTop { g with pc := g.pc + len₂, stack := v.toList ++ g.stack })
    rw [← hs₂]
    exact hsteps
  · obtain ⟨e2, q2, q3, q4, q5, q6⟩ := id hsm
    have e3 : s₂ = ({ (U.calling g mk a).setFrames s₂.frames with heap := s₂.heap, slotsUsed := s₂.slotsUsed } : State).setVm s₂.vm := by
      have : s₂ = ({ s₂ with vm := (U.calling g mk a).vm } : State).setVm s₂.vm := rfl
      rw [e2] at this
      exact this
    have hf₂ : s₂.frames = .throwing q :: .java g :: U.frames.tail := hend
    have hW' : U.WarmedH s₂.vm := hW₂
    have hs₂ : s₂ = ((({ U with heap := s₂.heap, slotsUsed := s₂.slotsUsed } : State).setVm s₂.vm).setTop g).pushFrame (.throwing q) := by
      refine e3.trans ?_
      rw [hf₂, State.calling_eq h.top, State.setFrames_setFrames, State.pushFrame, State.frames_setTop _ hr', State.setTop_of_frames _ hr', State.setFrames_setFrames, hr]
      rfl
    have hsame : U.sameButNew ({ U with heap := s₂.heap, slotsUsed := s₂.slotsUsed } : State) L mc ms := by
      refine ⟨?_, q2, q3, q4, q5, q6⟩
      obtain ⟨t, ht, -⟩ := State.frames_cons hr
      show ({ U with heap := s₂.heap, slotsUsed := s₂.slotsUsed } : State) = { U.setFrames U.frames with heap := s₂.heap, slotsUsed := s₂.slotsUsed }
      rw [State.setFrames_self ht]
    subst hg
    refine Or.inr ⟨q, ⟨(({ U with heap := s₂.heap, slotsUsed := s₂.slotsUsed } : State).setVm s₂.vm), Ls ++ L, c0 + mc, s0 + ms⟩,
      ⟨X.admits, X.cas, X.clock, X.frames, X.room, X.hears, X.method, X.code, (X.here.setHeapUsed s₂.heap s₂.slotsUsed).setVm hW'.alike, X.tail, State.WarmedH.trans X.warmed hW', X.limits, X.bytes, X.same.trans (hsame.setVm s.vm)⟩,
      ⟨g, mk, s₂, L, E, ce, rfl, rfl, hx, hce, hcv, hcl, rfl, hL, rfl, rfl⟩, ?_⟩
    show Steps p.tables e below _ (((({ U with heap := s₂.heap, slotsUsed := s₂.slotsUsed } : State).setVm s₂.vm).setTop g).pushFrame (.throwing q))
    rw [← hs₂]
    exact hsteps
end
variable {p : Program} {l : Launch} {e : Env} {R : Room} {s : State} {m : MethodId} {args : Array Value} {below : List Frame} {meth : Method} {c : Code} {T : State} {H : Heap} {locs : List Loc} {cells slots : Nat}
theorem vx_callVX (X : Stand p l e R s m args below meth c T locs cells slots) (hexec : p.tables.exec = Jvm.exec) {own C : String} {index : Nat} {y : MethodName} {bytes : ByteArray} {maxL : Nat} {ret : Option FieldType} {hh : List (Nat × Nat × Nat × Nat)}
    (hown : s.vm.findClass own = some m.cls) (hlink : (Cond.methodLink own index y).before args s = true) (hinst : (Cond.instanceMethod y).before args s = true) (hsel : (Cond.selects C y y).before args s = true)
    (hcode : (Cond.codeWith y bytes maxL ret hh).before args s = true) (hy : y.cls ≠ "java/lang/invoke/MethodHandle" ∧ y.cls ≠ "java/lang/invoke/VarHandle")
    {W9 : Nat} {Pre : Pt → Array Value → Prop} {Post : Pt → Array Value → Option Value → Pt → Prop} {PostX : Pt → Array Value → Addr → Pt → Prop} (hK : vx_Back l R p e below s args y 3 W9 Pre Post PostX)
    {b : Addr} {cellB : Cell} (hcell : T.heap[b]? = some cellB) (hobj : cellB.vm.isStatics = false) (hcls : s.vm.findClass C = some cellB.cls)
    {g : JFrame} (hg : g.method = m) (hsize : g.locals.size = c.maxLocals) {argsL rest : List Value} (hlen : ∀ sig, parseMethodDescriptor y.desc = some sig → argsL.length = sig.parameters.length)
    (hstack : g.stack = argsL.reverse ++ .ref b :: rest) (hW : 2 * g.monitorRoom + (rest.map fun v => v.category).sum ≤ W9) (hdg : decode c.code g.pc = .ok (.invokevirtual index, 3))
    (hpre : ∀ vm₁, s.WarmedH vm₁ → Pre ⟨T.setVm vm₁, locs, cells, slots⟩ (Value.ref b :: argsL).toArray) :
    (∃ (v : Option Value) (vm₁ : Vm) (B : Pt), s.WarmedH vm₁ ∧ Stand p l e R s m args below meth c B.U B.locs B.cells B.slots ∧ Post ⟨T.setVm vm₁, locs, cells, slots⟩ (Value.ref b :: argsL).toArray v B ∧
      ∀ target, Steps p.tables e below (B.U.setTop { g with pc := g.pc + 3, stack := v.toList ++ rest }) target → Steps p.tables e below (T.setTop g) target) ∨
    (∃ (q : Addr) (vm₁ : Vm) (B : Pt), s.WarmedH vm₁ ∧ Stand p l e R s m args below meth c B.U B.locs B.cells B.slots ∧ PostX ⟨T.setVm vm₁, locs, cells, slots⟩ (Value.ref b :: argsL).toArray q B ∧
      Steps p.tables e below (T.setTop g) ((B.U.setTop { g with stack := rest }).pushFrame (.throwing q))) := by
  obtain ⟨mk, methM, hnamed, hmethM, hstM, habM⟩ := Cond.instanceMethod_spec hinst
  obtain ⟨m8, methM', cM, hn8, hmethM', -, -, -, -, -, -, hsigM⟩ := Cond.codeWith_spec hcode
  cases Option.some.inj (hn8.symm.trans hnamed)
  cases hmethM.symm.trans hmethM'
  obtain ⟨c2, r2, m2, q1, q2, q3, q4, kP, hkP, hkPi⟩ := Cond.selects_spec hsel
  cases hcls.symm.trans q1
  cases (State.methodFound?_of_named hnamed hy).symm.trans q2
  cases hnamed.symm.trans q3
  have hselP : selectMethod e.platform s.vm cellB.cls mk = .method mk := by rw [Launch.admits_selectMethod X.admits]; exact q4
  obtain ⟨vm₁, X₁, hstep₁⟩ := X.invokevirtual hexec hown hlink hnamed hmethM hstM hkP hkPi hy (a := b) (cell := cellB) hcell
    (fun z h => by rw [h] at hobj; cases hobj) hselP hmethM habM hkP hkPi (g := g) hg (argsL := argsL) (rest := rest) (hlen _ hsigM) hstack hdg
  rcases hK m meth c ⟨T.setVm vm₁, locs, cells, slots⟩ { g with stack := rest } (.invokevirtual index) mk (Value.ref b :: argsL).toArray X₁ hg hsize hdg hW (X₁.named hnamed) (hpre vm₁ X₁.warmed) with ⟨v, B, X', hpost, hsteps⟩ | ⟨q, B, X', hpost, hsteps⟩
  · exact Or.inl ⟨v, vm₁, B, X₁.warmed, X', hpost, fun target h => hstep₁ _ fun acts => by rw [doInvoke_state]; exact hsteps.trans h⟩
  · exact Or.inr ⟨q, vm₁, B, X₁.warmed, X', hpost, hstep₁ _ fun acts => by rw [doInvoke_state]; exact hsteps⟩
theorem vx_callSX (X : Stand p l e R s m args below meth c T locs cells slots) (hexec : p.tables.exec = Jvm.exec) {own : String} {index : Nat} {y : MethodName} {bytes : ByteArray} {maxL : Nat} {ret : Option FieldType} {hh : List (Nat × Nat × Nat × Nat)}
    (hown : s.vm.findClass own = some m.cls) (hlink : (Cond.methodLink own index y).before args s = true) (hstat : (Cond.static y).before args s = true) (hinit : (Cond.initialized y.cls).before args s = true)
    (hcode : (Cond.codeWith y bytes maxL ret hh).before args s = true) (hy : y.cls ≠ "java/lang/invoke/MethodHandle" ∧ y.cls ≠ "java/lang/invoke/VarHandle")
    {W9 : Nat} {Pre : Pt → Array Value → Prop} {Post : Pt → Array Value → Option Value → Pt → Prop} {PostX : Pt → Array Value → Addr → Pt → Prop} (hK : vx_Back l R p e below s args y 3 W9 Pre Post PostX)
    {g : JFrame} (hg : g.method = m) (hsize : g.locals.size = c.maxLocals) {argsL rest : List Value} (hlen : ∀ sig, parseMethodDescriptor y.desc = some sig → argsL.length = sig.parameters.length)
    (hstack : g.stack = argsL.reverse ++ rest) (hW : 2 * g.monitorRoom + (rest.map fun v => v.category).sum ≤ W9) (hdg : decode c.code g.pc = .ok (.invokestatic index, 3))
    (hpre : ∀ vm₁, s.WarmedH vm₁ → Pre ⟨T.setVm vm₁, locs, cells, slots⟩ argsL.toArray) :
    (∃ (v : Option Value) (vm₁ : Vm) (B : Pt), s.WarmedH vm₁ ∧ Stand p l e R s m args below meth c B.U B.locs B.cells B.slots ∧ Post ⟨T.setVm vm₁, locs, cells, slots⟩ argsL.toArray v B ∧
      ∀ target, Steps p.tables e below (B.U.setTop { g with pc := g.pc + 3, stack := v.toList ++ rest }) target → Steps p.tables e below (T.setTop g) target) ∨
    (∃ (q : Addr) (vm₁ : Vm) (B : Pt), s.WarmedH vm₁ ∧ Stand p l e R s m args below meth c B.U B.locs B.cells B.slots ∧ PostX ⟨T.setVm vm₁, locs, cells, slots⟩ argsL.toArray q B ∧
      Steps p.tables e below (T.setTop g) ((B.U.setTop { g with stack := rest }).pushFrame (.throwing q))) := by
  obtain ⟨mk, methM, cM, hnamed, hmethM, -, -, -, -, -, -, hsigM⟩ := Cond.codeWith_spec hcode
  have hstatic : methM.isStatic = true := Cond.static_spec hnamed hmethM hstat
  obtain ⟨kP, hkP, -⟩ := className_of_methodNamed hnamed
  have hinitP : kP.init = .initialized := Cond.initialized_spec (findClass_of_methodNamed hnamed) hkP hinit
  obtain ⟨vm₁, X₁, hstep₁⟩ := X.invokestatic hexec hown hlink hnamed hmethM hstatic hkP hinitP hy (g := g) hg (argsL := argsL) (rest := rest) (hlen _ hsigM) hstack hdg
  rcases hK m meth c ⟨T.setVm vm₁, locs, cells, slots⟩ { g with stack := rest } (.invokestatic index) mk argsL.toArray X₁ hg hsize hdg hW (X₁.named hnamed) (hpre vm₁ X₁.warmed) with ⟨v, B, X', hpost, hsteps⟩ | ⟨q, B, X', hpost, hsteps⟩
  · exact Or.inl ⟨v, vm₁, B, X₁.warmed, X', hpost, fun target h => hstep₁ _ fun acts => by rw [doInvoke_state]; exact hsteps.trans h⟩
  · exact Or.inr ⟨q, vm₁, B, X₁.warmed, X', hpost, hstep₁ _ fun acts => by rw [doInvoke_state]; exact hsteps⟩
theorem vx_callVW (X : Stand p l e R s m args below meth c T locs cells slots) (hexec : p.tables.exec = Jvm.exec) {own C : String} {index : Nat} {y : MethodName} {bytes : ByteArray} {maxL : Nat} {ret : Option FieldType} {hh : List (Nat × Nat × Nat × Nat)}
    (hown : s.vm.findClass own = some m.cls) (hlink : (Cond.methodLink own index y).before args s = true) (hinst : (Cond.instanceMethod y).before args s = true) (hsel : (Cond.selects C y y).before args s = true)
    (hcode : (Cond.codeWith y bytes maxL ret hh).before args s = true) (hy : y.cls ≠ "java/lang/invoke/MethodHandle" ∧ y.cls ≠ "java/lang/invoke/VarHandle")
    {W9 : Nat} {Pre : Pt → Array Value → Prop} {Post : Pt → Array Value → Option Value → Pt → Prop} (hK : Back l R p e below s args y 3 W9 Pre Post)
    {b : Addr} {cellB : Cell} (hcell : T.heap[b]? = some cellB) (hobj : cellB.vm.isStatics = false) (hcls : s.vm.findClass C = some cellB.cls)
    {g : JFrame} (hg : g.method = m) (hsize : g.locals.size = c.maxLocals) {argsL rest : List Value} (hlen : ∀ sig, parseMethodDescriptor y.desc = some sig → argsL.length = sig.parameters.length)
    (hstack : g.stack = argsL.reverse ++ .ref b :: rest) (hW : 2 * g.monitorRoom + (rest.map fun v => v.category).sum ≤ W9) (hdg : decode c.code g.pc = .ok (.invokevirtual index, 3))
    (hpre : ∀ vm₁, s.WarmedH vm₁ → Pre ⟨T.setVm vm₁, locs, cells, slots⟩ (Value.ref b :: argsL).toArray) :
    ∃ (v : Option Value) (vm₁ : Vm) (B : Pt), s.WarmedH vm₁ ∧ Stand p l e R s m args below meth c B.U B.locs B.cells B.slots ∧ Post ⟨T.setVm vm₁, locs, cells, slots⟩ (Value.ref b :: argsL).toArray v B ∧
      ∀ target, Steps p.tables e below (B.U.setTop { g with pc := g.pc + 3, stack := v.toList ++ rest }) target → Steps p.tables e below (T.setTop g) target := by
  obtain ⟨mk, methM, hnamed, hmethM, hstM, habM⟩ := Cond.instanceMethod_spec hinst
  obtain ⟨m8, methM', cM, hn8, hmethM', -, -, -, -, -, -, hsigM⟩ := Cond.codeWith_spec hcode
  cases Option.some.inj (hn8.symm.trans hnamed)
  cases hmethM.symm.trans hmethM'
  obtain ⟨c2, r2, m2, q1, q2, q3, q4, kP, hkP, hkPi⟩ := Cond.selects_spec hsel
  cases hcls.symm.trans q1
  cases (State.methodFound?_of_named hnamed hy).symm.trans q2
  cases hnamed.symm.trans q3
  have hselP : selectMethod e.platform s.vm cellB.cls mk = .method mk := by rw [Launch.admits_selectMethod X.admits]; exact q4
  obtain ⟨vm₁, X₁, hstep₁⟩ := X.invokevirtual hexec hown hlink hnamed hmethM hstM hkP hkPi hy (a := b) (cell := cellB) hcell
    (fun z h => by rw [h] at hobj; cases hobj) hselP hmethM habM hkP hkPi (g := g) hg (argsL := argsL) (rest := rest) (hlen _ hsigM) hstack hdg
  obtain ⟨v, B, X', hpost, hsteps⟩ := hK m meth c ⟨T.setVm vm₁, locs, cells, slots⟩ { g with stack := rest } (.invokevirtual index) mk (Value.ref b :: argsL).toArray X₁ hg hsize hdg hW (X₁.named hnamed) (hpre vm₁ X₁.warmed)
  exact ⟨v, vm₁, B, X₁.warmed, X', hpost, fun target h => hstep₁ _ fun acts => by rw [doInvoke_state]; exact hsteps.trans h⟩
abbrev vx_CVW (R : Room) (s : State) (args : Array Value) (own C : String) (index : Nat) (y : MethodName) (bytes : ByteArray) (maxL : Nat) (ret : Option FieldType) (hh : List (Nat × Nat × Nat × Nat)) (ws : List Cond) (rm : Room) (mc ms n : Nat) : Prop :=
  (rm.cells = mc ∧ rm.slots = ms ∧ rm.frames + 1 ≤ R.frames ∧ 8 + (maxL + 11) + rm.locals ≤ R.locals ∧ (∀ w ∈ ws, ∀ (a' : Array Value) (U : State), s.WarmedH U.vm → w.before a' U = true) ∧ Cond.codeWith y bytes maxL ret hh ∈ ws) ∧
  (Cond.codeWith y bytes maxL ret hh).before args s = true ∧ (Cond.initialized y.cls).before args s = true ∧ (y.cls ≠ "java/lang/invoke/MethodHandle" ∧ y.cls ≠ "java/lang/invoke/VarHandle") ∧
  (∀ sig, parseMethodDescriptor y.desc = some sig → n = sig.parameters.length) ∧ (Cond.methodLink own index y).before args s = true ∧ (Cond.instanceMethod y).before args s = true ∧ (Cond.selects C y y).before args s = true
theorem vx_cwVW {own C : String} {index maxL mc ms : Nat} {y : MethodName} {bytes : ByteArray} {ret : Option FieldType} {hh : List (Nat × Nat × Nat × Nat)} {Ts ws ws' : List Cond} {rm : Room} (n : Nat) (ht : ∀ w ∈ Ts, w.before args s = true) (hT : GoodIn Ts (wsV own index C y ws)) (hw : ws = Cond.codeWith y bytes maxL ret hh :: ws') (hrc : rm.cells = mc) (hrs : rm.slots = ms)
    (hd : y.cls = C ∧ y.cls ≠ "java/lang/invoke/MethodHandle" ∧ y.cls ≠ "java/lang/invoke/VarHandle" ∧ (parseMethodDescriptor y.desc).map (fun d => d.parameters.length) = some n) (hR : rm.frames + 1 ≤ R.frames ∧ 8 + (maxL + 11) + rm.locals ≤ R.locals) :
    vx_CVW R s args own C index y bytes maxL ret hh ws rm mc ms n := by
  obtain ⟨hC, hd⟩ := hd
  subst hC
  have ok : ∀ w ∈ wsV own index y.cls y ws, w.before args s = true := fun w h => ht w (hT w h).1
  have hG : GoodIn Ts ws := fun w h => hT w (by unfold wsV; exact List.mem_append_right _ h)
  have hc : Cond.codeWith y bytes maxL ret hh ∈ ws := by rw [hw]; exact List.mem_cons_self
  refine ⟨⟨hrc, hrs, hR.1, hR.2, pay_in ht hG, hc⟩, ht _ (hG _ hc).1, ok _ (by simp [wsV]), ⟨hd.1, hd.2.1⟩, fun sig h => ?_, ok _ (by simp [wsV]), ok _ (by simp [wsV]), ok _ (by simp [wsV])⟩
  have h2 := hd.2.2
  rw [h] at h2
  exact (Option.some.inj h2).symm
theorem vx_runVW {y : MethodName} {bytes cc : ByteArray} {maxL nL mc ms n index : Nat} {ret : Option FieldType} {hh : List (Nat × Nat × Nat × Nat)} {ws : List Cond} {rm : Room} {Pc : Array Value → State → Prop} {Qc : Array Value → State → Outcome → State → Prop} {free : Addr → Prop} {Ts : List Cond} {own C : String} {b : Addr} {As rest : List Value} {g : JFrame}
    (S : CallFix p m c cc nL s args Ts own) (hM : Met l y ws rm Pc Qc mc ms free) (cw : vx_CVW R s args own C index y bytes maxL ret hh ws rm mc ms n) (hp : PreV s H C b Pc As)
    (hg : g.method = m) (hn : As.length = n) (hsize : g.locals.size = nL) (hstack : g.stack = As.reverse ++ .ref b :: rest) (hW : 2 * g.monitorRoom + (rest.map fun v => v.category).sum ≤ 8) (hdg : decode cc g.pc = .ok (.invokevirtual index, 3)) (hf : cells + mc ≤ R.cells ∧ slots + ms ≤ R.slots) :
    va_Run p l e R s m args below meth c H locs cells slots mc ms g rest (Qc (Value.ref b :: As).toArray) free := by
  obtain ⟨⟨hrc, hrs, hfr, hlo, hws, hcw⟩, hcode, hini, hy, hlen, hl, hin, hse⟩ := cw
  have hK : Back l R p e below s args y 3 8 (PreOf R mc ms Pc) (PostOf Qc mc ms free) := va_backW (hh := hh) (bytes := bytes) (maxL := maxL) (ret := ret) hM hp.1 hrc hrs hfr hlo hws hcw (fun a' U hW => word_at hW (Or.inl (by first | rfl | simp [Cond.onTables, Cond.keeps, Cond.steady])) hini)
  obtain ⟨hx, hb, hml, ho, -⟩ := S
  obtain ⟨-, ⟨cellB, hcB, hoB, hclB⟩, hPc⟩ := hp
  intro T hT X
  obtain ⟨v, vm₁, ⟨U', l2, c2, s2⟩, hW₁, X', ⟨g', mk, t, L, e1, e2, hq, h1, hL, h2, h3⟩, st⟩ := vx_callVW X hx (C := C) (hh := hh) (bytes := bytes) (maxL := maxL) (ret := ret) ho hl hin hse hcode hy hK (by rw [hT]; exact hcB) hoB hclB hg (hsize.trans hml.symm) (argsL := As) (rest := rest) (fun sig h => hn.trans (hlen sig h)) hstack hW (by rw [hb]; exact hdg)
    (fun vm₁ hW₁ => ⟨hf.1, hf.2, hPc (T.setVm vm₁) hT hW₁⟩)
  dsimp only [Pt.U, Pt.locs, Pt.cells, Pt.slots] at X' e1 e2 h1 h2 h3 st
  subst h1; subst h2; subst h3
  exact ⟨v, (T.setVm vm₁).calling g' mk (Value.ref b :: As).toArray, t, U', L, hT, X', hL, e1, e2, hq, st⟩
section
variable {y : MethodName} {bytes cc : ByteArray} {maxL nL mc ms n index : Nat} {ret : Option FieldType} {ws : List Cond} {rm : Room} {Pc : Array Value → State → Prop} {Qc : Array Value → State → Outcome → State → Prop} {XC : String → State → State → Prop} {free : Addr → Prop} {Ts : List Cond} {own C : String} {b : Addr} {As rest : List Value} {g : JFrame}
theorem vx_runVX {hh : List (Nat × Nat × Nat × Nat)} (S : CallFix p m c cc nL s args Ts own) (hM : vx_Met l y ws rm Pc Qc XC mc ms free) (cw : vx_CVW R s args own C index y bytes maxL ret hh ws rm mc ms n) (hp : PreV s H C b Pc As)
    (hg : g.method = m) (hn : As.length = n) (hsize : g.locals.size = nL) (hstack : g.stack = As.reverse ++ .ref b :: rest) (hW : 2 * g.monitorRoom + (rest.map fun v => v.category).sum ≤ 8) (hdg : decode cc g.pc = .ok (.invokevirtual index, 3)) (hf : cells + mc ≤ R.cells ∧ slots + ms ≤ R.slots) :
    vx_Run p l e R s m args below meth c H locs cells slots mc ms g rest (Qc (Value.ref b :: As).toArray) XC free := by
  obtain ⟨⟨hrc, hrs, hfr, hlo, hws, hcw⟩, hcode, hini, hy, hlen, hl, hin, hse⟩ := cw
  have hK : vx_Back l R p e below s args y 3 8 (PreOf R mc ms Pc) (PostOf Qc mc ms free) (vx_Post XC mc ms free) := vx_backW (hh := hh) (bytes := bytes) (maxL := maxL) (ret := ret) hM hp.1 hrc hrs hfr hlo hws hcw (fun a' U hW => word_at hW (Or.inl (by first | rfl | simp [Cond.onTables, Cond.keeps, Cond.steady])) hini)
  obtain ⟨hx, hb, hml, ho, -⟩ := S
  obtain ⟨-, ⟨cellB, hcB, hoB, hclB⟩, hPc⟩ := hp
  intro T hT X
  rcases vx_callVX X hx (C := C) (hh := hh) (bytes := bytes) (maxL := maxL) (ret := ret) ho hl hin hse hcode hy hK (by rw [hT]; exact hcB) hoB hclB hg (hsize.trans hml.symm) (argsL := As) (rest := rest) (fun sig h => hn.trans (hlen sig h)) hstack hW (by rw [hb]; exact hdg)
    (fun vm₁ hW₁ => ⟨hf.1, hf.2, hPc (T.setVm vm₁) hT hW₁⟩) with ⟨v, vm₁, ⟨U', l2, c2, s2⟩, hW₁, X', ⟨g', mk, t, L, e1, e2, hq, h1, hL, h2, h3⟩, st⟩ | ⟨q, vm₁, ⟨U', l2, c2, s2⟩, hW₁, X', ⟨g', mk, t, L, E, ce, e1, e2, hq, hce, hcv, hcl, h1, hL, h2, h3⟩, st⟩
  · dsimp only [Pt.U, Pt.locs, Pt.cells, Pt.slots] at X' e1 e2 h1 h2 h3 st
    subst h1; subst h2; subst h3
    exact Or.inl ⟨v, (T.setVm vm₁).calling g' mk (Value.ref b :: As).toArray, t, U', L, hT, X', hL, e1, e2, hq, st⟩
  · dsimp only [Pt.U, Pt.locs, Pt.cells, Pt.slots] at X' e1 e2 h1 h2 h3 st hcl
    subst h1; subst h2; subst h3
    exact Or.inr ⟨q, (T.setVm vm₁).calling g' mk (Value.ref b :: As).toArray, t, U', L, E, ce, hT, X', hL, e1, e2, hq, hce, hcv, vx_cls hW₁ hcl, st⟩
theorem vx_runSX {hh : List (Nat × Nat × Nat × Nat)} (S : CallFix p m c cc nL s args Ts own) (hM : vx_Met l y ws rm Pc Qc XC mc ms free) (cw : vx_CSW R s args own index y bytes maxL ret hh ws rm mc ms n) (hp : PreS s H Pc As)
    (hg : g.method = m) (hn : As.length = n) (hsize : g.locals.size = nL) (hstack : g.stack = As.reverse ++ rest) (hW : 2 * g.monitorRoom + (rest.map fun v => v.category).sum ≤ 8) (hdg : decode cc g.pc = .ok (.invokestatic index, 3)) (hf : cells + mc ≤ R.cells ∧ slots + ms ≤ R.slots) :
    vx_Run p l e R s m args below meth c H locs cells slots mc ms g rest (Qc As.toArray) XC free := by
  obtain ⟨⟨hrc, hrs, hfr, hlo, hws, hcw⟩, hcode, hini, hy, hlen, hl, hstt⟩ := cw
  have hK : vx_Back l R p e below s args y 3 8 (PreOf R mc ms Pc) (PostOf Qc mc ms free) (vx_Post XC mc ms free) := vx_backW (hh := hh) (bytes := bytes) (maxL := maxL) (ret := ret) hM hp.1 hrc hrs hfr hlo hws hcw (fun a' U hW => word_at hW (Or.inl (by first | rfl | simp [Cond.onTables, Cond.keeps, Cond.steady])) hini)
  obtain ⟨hx, hb, hml, ho, -⟩ := S
  intro T hT X
  rcases vx_callSX X hx (hh := hh) (bytes := bytes) (maxL := maxL) (ret := ret) ho hl hstt hini hcode hy hK hg (hsize.trans hml.symm) (argsL := As) (rest := rest) (fun sig h => hn.trans (hlen sig h)) hstack hW (by rw [hb]; exact hdg)
    (fun vm₁ hW₁ => ⟨hf.1, hf.2, hp.2 (T.setVm vm₁) hT hW₁⟩) with ⟨v, vm₁, ⟨U', l2, c2, s2⟩, hW₁, X', ⟨g', mk, t, L, e1, e2, hq, h1, hL, h2, h3⟩, st⟩ | ⟨q, vm₁, ⟨U', l2, c2, s2⟩, hW₁, X', ⟨g', mk, t, L, E, ce, e1, e2, hq, hce, hcv, hcl, h1, hL, h2, h3⟩, st⟩
  · dsimp only [Pt.U, Pt.locs, Pt.cells, Pt.slots] at X' e1 e2 h1 h2 h3 st
    subst h1; subst h2; subst h3
    exact Or.inl ⟨v, (T.setVm vm₁).calling g' mk As.toArray, t, U', L, hT, X', hL, e1, e2, hq, st⟩
  · dsimp only [Pt.U, Pt.locs, Pt.cells, Pt.slots] at X' e1 e2 h1 h2 h3 st hcl
    subst h1; subst h2; subst h3
    exact Or.inr ⟨q, (T.setVm vm₁).calling g' mk As.toArray, t, U', L, E, ce, hT, X', hL, e1, e2, hq, hce, hcv, vx_cls hW₁ hcl, st⟩
end
end VXH
theorem vx_ofWH {l : Launch} {y : MethodName} {ws ws' : List Cond} {rm : Room} {Pc : Array Value → State → Prop} {Qc : Array Value → State → Outcome → State → Prop} {XC : String → State → State → Prop} {mc ms : Nat} {free : Addr → Prop} {cc : ByteArray} {maxL : Nat} {ret : Option FieldType} {hh : List (Nat × Nat × Nat × Nat)}
    (hy : plainName y.cls = true) (hw : ws = Cond.codeWith y cc maxL ret hh :: ws')
    (body : ∀ p e s m args below meth c s₁, BodyLoose p l y (headSpec ws rm) cc maxL ret e s m args below meth c s₁ → c.maxLocals = maxL → Pc args s →
      W p l e (headSpec ws rm).room s m args below meth c s.heap [] 0 0 (vx_MQ below Qc XC args s mc ms free) (entryFrame m args maxL)) : vx_Met l y ws rm Pc Qc XC mc ms free := by
  refine MetFree.of_bodyS (code := cc) (maxLocals := maxL) (ret := ret) hy ?_ ?_
  · intro args s m h hn
    obtain ⟨m9, meth, c, hn9, h1, h2, h3, h4, -, h5, h6, -⟩ := Cond.codeWith_spec (atoms_spec (ws := ws) h _ (by rw [hw]; exact List.mem_cons_self))
    cases hn.symm.trans hn9
    exact ⟨meth, c, h1, h2, h3, h4, h5, h6⟩
  · intro p e s m args below meth c s₁ B hml hP _
    have hh0 : s₁.heap = s.heap := by rw [B.state]; rfl
    obtain ⟨t, a1, o, b1, b2, b3⟩ := body p e s m args below meth c s₁ B hml hP s₁ hh0 (Stand.of_body B)
    exact ⟨t, o, a1, b1, b2, b3⟩
/-! ===== END ===== -/
end
section
/-! ===== BEGIN printed: names, fields, word lists, decode rows ===== -/
def RX0 : String := "ScoreboardCore$Board"
def TX0 : u_T := fun k => match k with
  | 0 => ("ScoreboardCore$Board", "doneCounts", "[I", true)
  | 1 => ("ScoreboardCore$Board", "waitCounts", "[J", true)
  | 2 => ("ScoreboardCore$Board", "counted", "J", false)
  | 3 => ("ScoreboardCore$Board", "unitFreeFrom", "[I", true)
  | 4 => ("ScoreboardCore$Board", "registerFreeFrom", "[I", true)
  | 5 => ("ScoreboardCore$Board", "registerLastRead", "[I", true)
  | 6 => ("ScoreboardCore$Board", "memoryLastEnd", "I", false)
  | 7 => ("ScoreboardCore$Board", "earliest", "I", false)
  | _ => ("ScoreboardCore$Board", "last", "I", false)
def tyX0 : Nat → FieldType := fun k => match k with
  | 0 => .array .int
  | 1 => .array .long
  | 2 => .long
  | 3 => .array .int
  | 4 => .array .int
  | 5 => .array .int
  | 6 => .int
  | 7 => .int
  | _ => .int
abbrev wsX00 : List Cond := u_ws RX0 TX0 9
theorem nmX0 : ∀ a, a < 9 → ∀ b, b < 9 → a ≠ b → (TX0 a).2.1 ≠ (TX0 b).2.1 := by decide +kernel
theorem tyX0_ok : ∀ k, k < 9 → parseFieldDescriptor (TX0 k).2.2.1 = some (tyX0 k) := by decide +kernel
abbrev cX0_init : ByteArray := prog_2_method_1_code
def yX0_init : MethodName := ⟨RX0, "<init>", "()V"⟩
abbrev cX0_doneBy : ByteArray := prog_2_method_2_code
def yX0_doneBy : MethodName := ⟨RX0, "doneBy", "(I)I"⟩
abbrev cX0_waitedFor : ByteArray := prog_2_method_3_code
def yX0_waitedFor : MethodName := ⟨RX0, "waitedFor", "(I)J"⟩
abbrev cX0_cyclesCounted : ByteArray := prog_2_method_4_code
def yX0_cyclesCounted : MethodName := ⟨RX0, "cyclesCounted", "()J"⟩
abbrev cX0_empty : ByteArray := prog_2_method_5_code
def yX0_empty : MethodName := ⟨RX0, "empty", "()V"⟩
abbrev cX0_countCycles : ByteArray := prog_2_method_6_code
def yX0_countCycles : MethodName := ⟨RX0, "countCycles", "()V"⟩
abbrev cX0_giveOut : ByteArray := prog_2_method_7_code
def yX0_giveOut : MethodName := ⟨RX0, "giveOut", "(LScoreboardCore$Instruction;)V"⟩
abbrev cX0_doJump : ByteArray := prog_2_method_8_code
def yX0_doJump : MethodName := ⟨RX0, "doJump", "(LScoreboardCore$Instruction;Z)V"⟩
abbrev cX0_givenOutAt : ByteArray := prog_2_method_9_code
def yX0_givenOutAt : MethodName := ⟨RX0, "givenOutAt", "(LScoreboardCore$Instruction;)I"⟩
abbrev cX0_occupyUnit : ByteArray := prog_2_method_10_code
def yX0_occupyUnit : MethodName := ⟨RX0, "occupyUnit", "(LScoreboardCore$Instruction;I)V"⟩
abbrev cX0_unitFreeAt : ByteArray := prog_2_method_11_code
def yX0_unitFreeAt : MethodName := ⟨RX0, "unitFreeAt", "(II)I"⟩
abbrev cX0_endsAt : ByteArray := prog_2_method_12_code
def yX0_endsAt : MethodName := ⟨RX0, "endsAt", "(LScoreboardCore$Instruction;I)I"⟩
abbrev cX0_waitFor : ByteArray := prog_2_method_13_code
def yX0_waitFor : MethodName := ⟨RX0, "waitFor", "(III)I"⟩
abbrev cX0_reach : ByteArray := prog_2_method_14_code
def yX0_reach : MethodName := ⟨RX0, "reach", "(I)V"⟩
def RX1 : String := "ScoreboardCore$Instruction"
def TX1 : u_T := fun k => match k with
  | 0 => ("ScoreboardCore$Instruction", "op", "I", false)
  | 1 => ("ScoreboardCore$Instruction", "i", "I", false)
  | 2 => ("ScoreboardCore$Instruction", "j", "I", false)
  | 3 => ("ScoreboardCore$Instruction", "k", "I", false)
  | 4 => ("ScoreboardCore$Instruction", "constant", "I", false)
  | 5 => ("ScoreboardCore$Instruction", "parcelsLeft", "I", false)
  | 6 => ("ScoreboardCore$Instruction", "unit", "I", false)
  | 7 => ("ScoreboardCore$Instruction", "needs", "LScoreboardCore$RegisterList;", true)
  | _ => ("ScoreboardCore$Instruction", "results", "LScoreboardCore$RegisterList;", true)
def tyX1 : Nat → FieldType := fun k => match k with
  | 0 => .int
  | 1 => .int
  | 2 => .int
  | 3 => .int
  | 4 => .int
  | 5 => .int
  | 6 => .int
  | 7 => .object "ScoreboardCore$RegisterList"
  | _ => .object "ScoreboardCore$RegisterList"
abbrev wsX10 : List Cond := u_ws RX1 TX1 9
theorem nmX1 : ∀ a, a < 9 → ∀ b, b < 9 → a ≠ b → (TX1 a).2.1 ≠ (TX1 b).2.1 := by decide +kernel
theorem tyX1_ok : ∀ k, k < 9 → parseFieldDescriptor (TX1 k).2.2.1 = some (tyX1 k) := by decide +kernel
abbrev cX1_init : ByteArray := prog_3_method_1_code
def yX1_init : MethodName := ⟨RX1, "<init>", "()V"⟩
abbrev cX1_decode : ByteArray := prog_3_method_2_code
def yX1_decode : MethodName := ⟨RX1, "decode", "(JI)V"⟩
abbrev cX1_op : ByteArray := prog_3_method_3_code
def yX1_op : MethodName := ⟨RX1, "op", "()I"⟩
abbrev cX1_i : ByteArray := prog_3_method_4_code
def yX1_i : MethodName := ⟨RX1, "i", "()I"⟩
abbrev cX1_j : ByteArray := prog_3_method_5_code
def yX1_j : MethodName := ⟨RX1, "j", "()I"⟩
abbrev cX1_k : ByteArray := prog_3_method_6_code
def yX1_k : MethodName := ⟨RX1, "k", "()I"⟩
abbrev cX1_jk : ByteArray := prog_3_method_7_code
def yX1_jk : MethodName := ⟨RX1, "jk", "()I"⟩
abbrev cX1_constant : ByteArray := prog_3_method_8_code
def yX1_constant : MethodName := ⟨RX1, "constant", "()I"⟩
abbrev cX1_unit : ByteArray := prog_3_method_9_code
def yX1_unit : MethodName := ⟨RX1, "unit", "()I"⟩
abbrev cX1_needs : ByteArray := prog_3_method_10_code
def yX1_needs : MethodName := ⟨RX1, "needs", "()LScoreboardCore$RegisterList;"⟩
abbrev cX1_results : ByteArray := prog_3_method_11_code
def yX1_results : MethodName := ⟨RX1, "results", "()LScoreboardCore$RegisterList;"⟩
abbrev cX1_parcels : ByteArray := prog_3_method_12_code
def yX1_parcels : MethodName := ⟨RX1, "parcels", "()I"⟩
abbrev cX1_isJump : ByteArray := prog_3_method_13_code
def yX1_isJump : MethodName := ⟨RX1, "isJump", "()Z"⟩
abbrev cX1_loads : ByteArray := prog_3_method_14_code
def yX1_loads : MethodName := ⟨RX1, "loads", "()Z"⟩
abbrev cX1_stores : ByteArray := prog_3_method_15_code
def yX1_stores : MethodName := ⟨RX1, "stores", "()Z"⟩
abbrev cX1_stopCode : ByteArray := prog_3_method_16_code
def yX1_stopCode : MethodName := ⟨RX1, "stopCode", "()I"⟩
abbrev cX1_unitOf : ByteArray := prog_3_method_17_code
def yX1_unitOf : MethodName := ⟨RX1, "unitOf", "(I)I"⟩
abbrev cX1_listNeeds : ByteArray := prog_3_method_18_code
def yX1_listNeeds : MethodName := ⟨RX1, "listNeeds", "()V"⟩
abbrev cX1_listLogicNeeds : ByteArray := prog_3_method_19_code
def yX1_listLogicNeeds : MethodName := ⟨RX1, "listLogicNeeds", "()V"⟩
abbrev cX1_listShiftNeeds : ByteArray := prog_3_method_20_code
def yX1_listShiftNeeds : MethodName := ⟨RX1, "listShiftNeeds", "()V"⟩
abbrev cX1_listAddressNeeds : ByteArray := prog_3_method_21_code
def yX1_listAddressNeeds : MethodName := ⟨RX1, "listAddressNeeds", "()V"⟩
abbrev cX1_listJumpNeeds : ByteArray := prog_3_method_22_code
def yX1_listJumpNeeds : MethodName := ⟨RX1, "listJumpNeeds", "()V"⟩
abbrev cX1_listResults : ByteArray := prog_3_method_23_code
def yX1_listResults : MethodName := ⟨RX1, "listResults", "()V"⟩
def RX2 : String := "ScoreboardCore$Jumps"
def TX2 : u_T := fun k => match k with
  | _ => ("", "", "", false)
def tyX2 : Nat → FieldType := fun k => match k with
  | _ => .int
abbrev wsX20 : List Cond := u_ws RX2 TX2 0
theorem nmX2 : ∀ a, a < 0 → ∀ b, b < 0 → a ≠ b → (TX2 a).2.1 ≠ (TX2 b).2.1 := by decide +kernel
theorem tyX2_ok : ∀ k, k < 0 → parseFieldDescriptor (TX2 k).2.2.1 = some (tyX2 k) := by decide +kernel
abbrev cX2_goesElsewhere : ByteArray := prog_4_method_2_code
def yX2_goesElsewhere : MethodName := ⟨RX2, "goesElsewhere", "(LScoreboardCore$Instruction;LScoreboardCore$Registers;)Z"⟩
abbrev cX2_target : ByteArray := prog_4_method_3_code
def yX2_target : MethodName := ⟨RX2, "target", "(LScoreboardCore$Instruction;LScoreboardCore$Registers;)I"⟩
abbrev cX2_wayBack : ByteArray := prog_4_method_4_code
def yX2_wayBack : MethodName := ⟨RX2, "wayBack", "(I)J"⟩
abbrev cX2_wordHolds : ByteArray := prog_4_method_5_code
def yX2_wordHolds : MethodName := ⟨RX2, "wordHolds", "(IJ)Z"⟩
abbrev cX2_shortsHold : ByteArray := prog_4_method_6_code
def yX2_shortsHold : MethodName := ⟨RX2, "shortsHold", "(IJJ)Z"⟩
def RX3 : String := "ScoreboardCore$Memory"
def TX3 : u_T := fun k => match k with
  | 0 => ("ScoreboardCore$Memory", "words", "[J", true)
  | _ => ("ScoreboardCore$Memory", "program", "[J", true)
def tyX3 : Nat → FieldType := fun k => match k with
  | 0 => .array .long
  | _ => .array .long
abbrev wsX30 : List Cond := u_ws RX3 TX3 2
theorem nmX3 : ∀ a, a < 2 → ∀ b, b < 2 → a ≠ b → (TX3 a).2.1 ≠ (TX3 b).2.1 := by decide +kernel
theorem tyX3_ok : ∀ k, k < 2 → parseFieldDescriptor (TX3 k).2.2.1 = some (tyX3 k) := by decide +kernel
abbrev cX3_init : ByteArray := prog_5_method_1_code
def yX3_init : MethodName := ⟨RX3, "<init>", "()V"⟩
abbrev cX3_holds : ByteArray := prog_5_method_2_code
def yX3_holds : MethodName := ⟨RX3, "holds", "(I)Z"⟩
abbrev cX3_load : ByteArray := prog_5_method_3_code
def yX3_load : MethodName := ⟨RX3, "load", "(I)J"⟩
abbrev cX3_store : ByteArray := prog_5_method_4_code
def yX3_store : MethodName := ⟨RX3, "store", "(IJ)V"⟩
abbrev cX3_keepProgram : ByteArray := prog_5_method_5_code
def yX3_keepProgram : MethodName := ⟨RX3, "keepProgram", "()V"⟩
abbrev cX3_programWord : ByteArray := prog_5_method_6_code
def yX3_programWord : MethodName := ⟨RX3, "programWord", "(I)J"⟩
abbrev cX3_storeInProgram : ByteArray := prog_5_method_7_code
def yX3_storeInProgram : MethodName := ⟨RX3, "storeInProgram", "(IJ)V"⟩
def RX4 : String := "ScoreboardCore$Ones"
def TX4 : u_T := fun k => match k with
  | _ => ("", "", "", false)
def tyX4 : Nat → FieldType := fun k => match k with
  | _ => .int
abbrev wsX40 : List Cond := u_ws RX4 TX4 0
theorem nmX4 : ∀ a, a < 0 → ∀ b, b < 0 → a ≠ b → (TX4 a).2.1 ≠ (TX4 b).2.1 := by decide +kernel
theorem tyX4_ok : ∀ k, k < 0 → parseFieldDescriptor (TX4 k).2.2.1 = some (tyX4 k) := by decide +kernel
abbrev cX4_sum : ByteArray := prog_6_method_2_code
def yX4_sum : MethodName := ⟨RX4, "sum", "(JJJ)J"⟩
abbrev cX4_difference : ByteArray := prog_6_method_3_code
def yX4_difference : MethodName := ⟨RX4, "difference", "(JJJ)J"⟩
abbrev cX4_isNegative : ByteArray := prog_6_method_4_code
def yX4_isNegative : MethodName := ⟨RX4, "isNegative", "(J)Z"⟩
abbrev cX4_isShortNegative : ByteArray := prog_6_method_5_code
def yX4_isShortNegative : MethodName := ⟨RX4, "isShortNegative", "(J)Z"⟩
abbrev cX4_isZero : ByteArray := prog_6_method_6_code
def yX4_isZero : MethodName := ⟨RX4, "isZero", "(J)Z"⟩
abbrev cX4_extended : ByteArray := prog_6_method_7_code
def yX4_extended : MethodName := ⟨RX4, "extended", "(J)J"⟩
abbrev cX4_plain : ByteArray := prog_6_method_8_code
def yX4_plain : MethodName := ⟨RX4, "plain", "(J)J"⟩
abbrev cX4_turnedRoundLeft : ByteArray := prog_6_method_9_code
def yX4_turnedRoundLeft : MethodName := ⟨RX4, "turnedRoundLeft", "(JI)J"⟩
abbrev cX4_shiftedRight : ByteArray := prog_6_method_10_code
def yX4_shiftedRight : MethodName := ⟨RX4, "shiftedRight", "(JI)J"⟩
abbrev cX4_highestBits : ByteArray := prog_6_method_11_code
def yX4_highestBits : MethodName := ⟨RX4, "highestBits", "(I)J"⟩
def RX5 : String := "ScoreboardCore$RegisterList"
def TX5 : u_T := fun k => match k with
  | 0 => ("ScoreboardCore$RegisterList", "numbers", "[I", true)
  | _ => ("ScoreboardCore$RegisterList", "size", "I", false)
def tyX5 : Nat → FieldType := fun k => match k with
  | 0 => .array .int
  | _ => .int
abbrev wsX50 : List Cond := u_ws RX5 TX5 2
theorem nmX5 : ∀ a, a < 2 → ∀ b, b < 2 → a ≠ b → (TX5 a).2.1 ≠ (TX5 b).2.1 := by decide +kernel
theorem tyX5_ok : ∀ k, k < 2 → parseFieldDescriptor (TX5 k).2.2.1 = some (tyX5 k) := by decide +kernel
abbrev cX5_init : ByteArray := prog_7_method_1_code
def yX5_init : MethodName := ⟨RX5, "<init>", "()V"⟩
abbrev cX5_clear : ByteArray := prog_7_method_2_code
def yX5_clear : MethodName := ⟨RX5, "clear", "()V"⟩
abbrev cX5_add : ByteArray := prog_7_method_3_code
def yX5_add : MethodName := ⟨RX5, "add", "(I)V"⟩
abbrev cX5_addX : ByteArray := prog_7_method_4_code
def yX5_addX : MethodName := ⟨RX5, "addX", "(I)V"⟩
abbrev cX5_addA : ByteArray := prog_7_method_5_code
def yX5_addA : MethodName := ⟨RX5, "addA", "(I)V"⟩
abbrev cX5_addB : ByteArray := prog_7_method_6_code
def yX5_addB : MethodName := ⟨RX5, "addB", "(I)V"⟩
abbrev cX5_latestIn : ByteArray := prog_7_method_7_code
def yX5_latestIn : MethodName := ⟨RX5, "latestIn", "([I)I"⟩
abbrev cX5_raiseIn : ByteArray := prog_7_method_8_code
def yX5_raiseIn : MethodName := ⟨RX5, "raiseIn", "([II)V"⟩
def RX6 : String := "ScoreboardCore$Registers"
def TX6 : u_T := fun k => match k with
  | _ => ("ScoreboardCore$Registers", "values", "[J", true)
def tyX6 : Nat → FieldType := fun k => match k with
  | _ => .array .long
abbrev wsX60 : List Cond := u_ws RX6 TX6 1
theorem nmX6 : ∀ a, a < 1 → ∀ b, b < 1 → a ≠ b → (TX6 a).2.1 ≠ (TX6 b).2.1 := by decide +kernel
theorem tyX6_ok : ∀ k, k < 1 → parseFieldDescriptor (TX6 k).2.2.1 = some (tyX6 k) := by decide +kernel
abbrev cX6_init : ByteArray := prog_8_method_1_code
def yX6_init : MethodName := ⟨RX6, "<init>", "()V"⟩
abbrev cX6_get : ByteArray := prog_8_method_2_code
def yX6_get : MethodName := ⟨RX6, "get", "(I)J"⟩
abbrev cX6_set : ByteArray := prog_8_method_3_code
def yX6_set : MethodName := ⟨RX6, "set", "(IJ)V"⟩
abbrev cX6_x : ByteArray := prog_8_method_4_code
def yX6_x : MethodName := ⟨RX6, "x", "(I)J"⟩
abbrev cX6_a : ByteArray := prog_8_method_5_code
def yX6_a : MethodName := ⟨RX6, "a", "(I)J"⟩
abbrev cX6_b : ByteArray := prog_8_method_6_code
def yX6_b : MethodName := ⟨RX6, "b", "(I)J"⟩
def RX7 : String := "ScoreboardCore$Work"
def TX7 : u_T := fun k => match k with
  | _ => ("", "", "", false)
def tyX7 : Nat → FieldType := fun k => match k with
  | _ => .int
abbrev wsX70 : List Cond := u_ws RX7 TX7 0
theorem nmX7 : ∀ a, a < 0 → ∀ b, b < 0 → a ≠ b → (TX7 a).2.1 ≠ (TX7 b).2.1 := by decide +kernel
theorem tyX7_ok : ∀ k, k < 0 → parseFieldDescriptor (TX7 k).2.2.1 = some (tyX7 k) := by decide +kernel
abbrev cX7_apply : ByteArray := prog_9_method_2_code
def yX7_apply : MethodName := ⟨RX7, "apply", "(LScoreboardCore$Instruction;LScoreboardCore$Registers;LScoreboardCore$Memory;)V"⟩
abbrev cX7_logic : ByteArray := prog_9_method_3_code
def yX7_logic : MethodName := ⟨RX7, "logic", "(IJJ)J"⟩
abbrev cX7_shift : ByteArray := prog_9_method_4_code
def yX7_shift : MethodName := ⟨RX7, "shift", "(LScoreboardCore$Instruction;LScoreboardCore$Registers;)J"⟩
abbrev cX7_shiftBy : ByteArray := prog_9_method_5_code
def yX7_shiftBy : MethodName := ⟨RX7, "shiftBy", "(JJZ)J"⟩
abbrev cX7_wordSum : ByteArray := prog_9_method_6_code
def yX7_wordSum : MethodName := ⟨RX7, "wordSum", "(IJJ)J"⟩
abbrev cX7_applyAddress : ByteArray := prog_9_method_7_code
def yX7_applyAddress : MethodName := ⟨RX7, "applyAddress", "(LScoreboardCore$Instruction;LScoreboardCore$Registers;LScoreboardCore$Memory;)V"⟩
abbrev cX7_reachMemory : ByteArray := prog_9_method_8_code
def yX7_reachMemory : MethodName := ⟨RX7, "reachMemory", "(LScoreboardCore$Instruction;ILScoreboardCore$Registers;LScoreboardCore$Memory;)V"⟩
abbrev cX7_shortSum : ByteArray := prog_9_method_9_code
def yX7_shortSum : MethodName := ⟨RX7, "shortSum", "(LScoreboardCore$Instruction;LScoreboardCore$Registers;)J"⟩
def RX8 : String := "ScoreboardCore"
def TX8 : u_T := fun k => match k with
  | 0 => ("ScoreboardCore", "memory", "LScoreboardCore$Memory;", true)
  | 1 => ("ScoreboardCore", "registers", "LScoreboardCore$Registers;", true)
  | 2 => ("ScoreboardCore", "board", "LScoreboardCore$Board;", true)
  | 3 => ("ScoreboardCore", "instruction", "LScoreboardCore$Instruction;", true)
  | 4 => ("ScoreboardCore", "word", "I", false)
  | 5 => ("ScoreboardCore", "parcel", "I", false)
  | _ => ("ScoreboardCore", "stop", "I", false)
def tyX8 : Nat → FieldType := fun k => match k with
  | 0 => .object "ScoreboardCore$Memory"
  | 1 => .object "ScoreboardCore$Registers"
  | 2 => .object "ScoreboardCore$Board"
  | 3 => .object "ScoreboardCore$Instruction"
  | 4 => .int
  | 5 => .int
  | _ => .int
abbrev wsX80 : List Cond := u_ws RX8 TX8 7
theorem nmX8 : ∀ a, a < 7 → ∀ b, b < 7 → a ≠ b → (TX8 a).2.1 ≠ (TX8 b).2.1 := by decide +kernel
theorem tyX8_ok : ∀ k, k < 7 → parseFieldDescriptor (TX8 k).2.2.1 = some (tyX8 k) := by decide +kernel
abbrev cX8_init : ByteArray := prog_1_method_1_code
def yX8_init : MethodName := ⟨RX8, "<init>", "()V"⟩
abbrev cX8_write : ByteArray := prog_1_method_2_code
def yX8_write : MethodName := ⟨RX8, "write", "(IJ)J"⟩
abbrev cX8_read : ByteArray := prog_1_method_3_code
def yX8_read : MethodName := ⟨RX8, "read", "(I)J"⟩
abbrev cX8_register : ByteArray := prog_1_method_4_code
def yX8_register : MethodName := ⟨RX8, "register", "(I)J"⟩
abbrev cX8_put : ByteArray := prog_1_method_5_code
def yX8_put : MethodName := ⟨RX8, "put", "(IJ)V"⟩
abbrev cX8_start : ByteArray := prog_1_method_6_code
def yX8_start : MethodName := ⟨RX8, "start", "(I)V"⟩
abbrev cX8_run : ByteArray := prog_1_method_7_code
def yX8_run : MethodName := ⟨RX8, "run", "(I)I"⟩
abbrev cX8_stopped : ByteArray := prog_1_method_8_code
def yX8_stopped : MethodName := ⟨RX8, "stopped", "()I"⟩
abbrev cX8_place : ByteArray := prog_1_method_9_code
def yX8_place : MethodName := ⟨RX8, "place", "()I"⟩
abbrev cX8_cycles : ByteArray := prog_1_method_10_code
def yX8_cycles : MethodName := ⟨RX8, "cycles", "()J"⟩
abbrev cX8_done : ByteArray := prog_1_method_11_code
def yX8_done : MethodName := ⟨RX8, "done", "(I)I"⟩
abbrev cX8_waited : ByteArray := prog_1_method_12_code
def yX8_waited : MethodName := ⟨RX8, "waited", "(I)J"⟩
abbrev cX8_takeNext : ByteArray := prog_1_method_13_code
def yX8_takeNext : MethodName := ⟨RX8, "takeNext", "()Z"⟩
abbrev cX8_takeJump : ByteArray := prog_1_method_14_code
def yX8_takeJump : MethodName := ⟨RX8, "takeJump", "()V"⟩
abbrev cX8_goOnBehind : ByteArray := prog_1_method_15_code
def yX8_goOnBehind : MethodName := ⟨RX8, "goOnBehind", "()V"⟩
abbrev cX8_goOnAt : ByteArray := prog_1_method_16_code
def yX8_goOnAt : MethodName := ⟨RX8, "goOnAt", "(I)V"⟩
def RX9 : String := "ScoreboardCoreModel"
def TX9 : u_T := fun k => match k with
  | 0 => ("ScoreboardCoreModel", "thrown", "I", false)
  | 1 => ("ScoreboardCoreModel", "memory", "[J", true)
  | 2 => ("ScoreboardCoreModel", "program", "[J", true)
  | 3 => ("ScoreboardCoreModel", "\x72", "[J", true)
  | 4 => ("ScoreboardCoreModel", "word", "I", false)
  | 5 => ("ScoreboardCoreModel", "parcel", "I", false)
  | 6 => ("ScoreboardCoreModel", "stop", "I", false)
  | 7 => ("ScoreboardCoreModel", "cycles", "J", false)
  | 8 => ("ScoreboardCoreModel", "done", "[I", true)
  | 9 => ("ScoreboardCoreModel", "waited", "[J", true)
  | 10 => ("ScoreboardCoreModel", "free", "[J", true)
  | 11 => ("ScoreboardCoreModel", "read", "[J", true)
  | 12 => ("ScoreboardCoreModel", "unitFree", "[J", true)
  | 13 => ("ScoreboardCoreModel", "memoryEnd", "J", false)
  | 14 => ("ScoreboardCoreModel", "earliest", "J", false)
  | 15 => ("ScoreboardCoreModel", "last", "J", false)
  | 16 => ("ScoreboardCoreModel", "op", "I", false)
  | 17 => ("ScoreboardCoreModel", "i", "I", false)
  | 18 => ("ScoreboardCoreModel", "j", "I", false)
  | 19 => ("ScoreboardCoreModel", "k", "I", false)
  | 20 => ("ScoreboardCoreModel", "number", "I", false)
  | 21 => ("ScoreboardCoreModel", "size", "I", false)
  | 22 => ("ScoreboardCoreModel", "needs", "I", false)
  | _ => ("ScoreboardCoreModel", "gives", "I", false)
def tyX9 : Nat → FieldType := fun k => match k with
  | 0 => .int
  | 1 => .array .long
  | 2 => .array .long
  | 3 => .array .long
  | 4 => .int
  | 5 => .int
  | 6 => .int
  | 7 => .long
  | 8 => .array .int
  | 9 => .array .long
  | 10 => .array .long
  | 11 => .array .long
  | 12 => .array .long
  | 13 => .long
  | 14 => .long
  | 15 => .long
  | 16 => .int
  | 17 => .int
  | 18 => .int
  | 19 => .int
  | 20 => .int
  | 21 => .int
  | 22 => .int
  | _ => .int
abbrev wsX90 : List Cond := u_ws RX9 TX9 24
theorem nmX9 : ∀ a, a < 24 → ∀ b, b < 24 → a ≠ b → (TX9 a).2.1 ≠ (TX9 b).2.1 := by decide +kernel
theorem tyX9_ok : ∀ k, k < 24 → parseFieldDescriptor (TX9 k).2.2.1 = some (tyX9 k) := by decide +kernel
abbrev cX9_init : ByteArray := prog_11_method_1_code
def yX9_init : MethodName := ⟨RX9, "<init>", "()V"⟩
abbrev cX9_thrown : ByteArray := prog_11_method_2_code
def yX9_thrown : MethodName := ⟨RX9, "thrown", "()I"⟩
abbrev cX9_write : ByteArray := prog_11_method_3_code
def yX9_write : MethodName := ⟨RX9, "write", "(IJ)J"⟩
abbrev cX9_read : ByteArray := prog_11_method_4_code
def yX9_read : MethodName := ⟨RX9, "read", "(I)J"⟩
abbrev cX9_register : ByteArray := prog_11_method_5_code
def yX9_register : MethodName := ⟨RX9, "register", "(I)J"⟩
abbrev cX9_set : ByteArray := prog_11_method_6_code
def yX9_set : MethodName := ⟨RX9, "set", "(IJ)V"⟩
abbrev cX9_put : ByteArray := prog_11_method_7_code
def yX9_put : MethodName := ⟨RX9, "put", "(IJ)V"⟩
abbrev cX9_start : ByteArray := prog_11_method_8_code
def yX9_start : MethodName := ⟨RX9, "start", "(I)V"⟩
abbrev cX9_sum : ByteArray := prog_11_method_9_code
def yX9_sum : MethodName := ⟨RX9, "sum", "(JJJ)J"⟩
abbrev cX9_less : ByteArray := prog_11_method_10_code
def yX9_less : MethodName := ⟨RX9, "less", "(JJJ)J"⟩
abbrev cX9_signed : ByteArray := prog_11_method_11_code
def yX9_signed : MethodName := ⟨RX9, "signed", "(JJ)J"⟩
abbrev cX9_extended : ByteArray := prog_11_method_12_code
def yX9_extended : MethodName := ⟨RX9, "extended", "(J)J"⟩
abbrev cX9_round : ByteArray := prog_11_method_13_code
def yX9_round : MethodName := ⟨RX9, "round", "(JI)J"⟩
abbrev cX9_right : ByteArray := prog_11_method_14_code
def yX9_right : MethodName := ⟨RX9, "right", "(JI)J"⟩
abbrev cX9_hasNumber : ByteArray := prog_11_method_15_code
def yX9_hasNumber : MethodName := ⟨RX9, "hasNumber", "(I)Z"⟩
abbrev cX9_isUnknown : ByteArray := prog_11_method_16_code
def yX9_isUnknown : MethodName := ⟨RX9, "isUnknown", "()Z"⟩
abbrev cX9_parcelAt : ByteArray := prog_11_method_17_code
def yX9_parcelAt : MethodName := ⟨RX9, "parcelAt", "(I)I"⟩
abbrev cX9_take : ByteArray := prog_11_method_18_code
def yX9_take : MethodName := ⟨RX9, "take", "()V"⟩
abbrev cX9_need : ByteArray := prog_11_method_19_code
def yX9_need : MethodName := ⟨RX9, "need", "(I)V"⟩
abbrev cX9_give : ByteArray := prog_11_method_20_code
def yX9_give : MethodName := ⟨RX9, "give", "(I)V"⟩
abbrev cX9_isMemory : ByteArray := prog_11_method_21_code
def yX9_isMemory : MethodName := ⟨RX9, "isMemory", "()Z"⟩
abbrev cX9_find : ByteArray := prog_11_method_22_code
def yX9_find : MethodName := ⟨RX9, "find", "()V"⟩
abbrev cX9_mixed : ByteArray := prog_11_method_23_code
def yX9_mixed : MethodName := ⟨RX9, "mixed", "()J"⟩
abbrev cX9_shifted : ByteArray := prog_11_method_24_code
def yX9_shifted : MethodName := ⟨RX9, "shifted", "()J"⟩
abbrev cX9_reckoned : ByteArray := prog_11_method_25_code
def yX9_reckoned : MethodName := ⟨RX9, "reckoned", "()J"⟩
abbrev cX9_placed : ByteArray := prog_11_method_26_code
def yX9_placed : MethodName := ⟨RX9, "placed", "()J"⟩
abbrev cX9_act : ByteArray := prog_11_method_27_code
def yX9_act : MethodName := ⟨RX9, "act", "()V"⟩
abbrev cX9_later : ByteArray := prog_11_method_28_code
def yX9_later : MethodName := ⟨RX9, "later", "(JJ)J"⟩
abbrev cX9_freeFrom : ByteArray := prog_11_method_29_code
def yX9_freeFrom : MethodName := ⟨RX9, "freeFrom", "(I)J"⟩
abbrev cX9_unit : ByteArray := prog_11_method_30_code
def yX9_unit : MethodName := ⟨RX9, "unit", "()I"⟩
abbrev cX9_board : ByteArray := prog_11_method_31_code
def yX9_board : MethodName := ⟨RX9, "board", "()V"⟩
abbrev cX9_holds : ByteArray := prog_11_method_32_code
def yX9_holds : MethodName := ⟨RX9, "holds", "()Z"⟩
abbrev cX9_jump : ByteArray := prog_11_method_33_code
def yX9_jump : MethodName := ⟨RX9, "jump", "()V"⟩
abbrev cX9_goOn : ByteArray := prog_11_method_34_code
def yX9_goOn : MethodName := ⟨RX9, "goOn", "()V"⟩
abbrev cX9_halt : ByteArray := prog_11_method_35_code
def yX9_halt : MethodName := ⟨RX9, "halt", "(I)V"⟩
abbrev cX9_one : ByteArray := prog_11_method_36_code
def yX9_one : MethodName := ⟨RX9, "one", "()Z"⟩
abbrev cX9_run : ByteArray := prog_11_method_37_code
def yX9_run : MethodName := ⟨RX9, "run", "(I)I"⟩
abbrev cX9_stopped : ByteArray := prog_11_method_38_code
def yX9_stopped : MethodName := ⟨RX9, "stopped", "()I"⟩
abbrev cX9_place : ByteArray := prog_11_method_39_code
def yX9_place : MethodName := ⟨RX9, "place", "()I"⟩
abbrev cX9_cycles : ByteArray := prog_11_method_40_code
def yX9_cycles : MethodName := ⟨RX9, "cycles", "()J"⟩
abbrev cX9_done : ByteArray := prog_11_method_41_code
def yX9_done : MethodName := ⟨RX9, "done", "(I)I"⟩
abbrev cX9_waited : ByteArray := prog_11_method_42_code
def yX9_waited : MethodName := ⟨RX9, "waited", "(I)J"⟩
def RJ13 : String := "java/lang/Long"
def TJ13 : u_T := fun k => match k with
  | _ => ("", "", "", false)
def tyJ13 : Nat → FieldType := fun k => match k with
  | _ => .int
abbrev wsJ130 : List Cond := u_ws RJ13 TJ13 0
theorem nmJ13 : ∀ a, a < 0 → ∀ b, b < 0 → a ≠ b → (TJ13 a).2.1 ≠ (TJ13 b).2.1 := by decide +kernel
theorem tyJ13_ok : ∀ k, k < 0 → parseFieldDescriptor (TJ13 k).2.2.1 = some (tyJ13 k) := by decide +kernel
abbrev cJ13_compare_74951 : ByteArray := prog_15_method_42_code
def yJ13_compare_74951 : MethodName := ⟨RJ13, "compare", "(JJ)I"⟩
abbrev cJ13_bitCount_95d88 : ByteArray := prog_15_method_50_code
def yJ13_bitCount_95d88 : MethodName := ⟨RJ13, "bitCount", "(J)I"⟩
def RJ9 : String := "java/lang/Math"
def TJ9 : u_T := fun k => match k with
  | _ => ("", "", "", false)
def tyJ9 : Nat → FieldType := fun k => match k with
  | _ => .int
abbrev wsJ90 : List Cond := u_ws RJ9 TJ9 0
theorem nmJ9 : ∀ a, a < 0 → ∀ b, b < 0 → a ≠ b → (TJ9 a).2.1 ≠ (TJ9 b).2.1 := by decide +kernel
theorem tyJ9_ok : ∀ k, k < 0 → parseFieldDescriptor (TJ9 k).2.2.1 = some (tyJ9 k) := by decide +kernel
abbrev cJ9_max_7cf53 : ByteArray := prog_16_method_65_code
def yJ9_max_7cf53 : MethodName := ⟨RJ9, "max", "(II)I"⟩
abbrev cJ9_min_7cf53 : ByteArray := prog_16_method_69_code
def yJ9_min_7cf53 : MethodName := ⟨RJ9, "min", "(II)I"⟩
def RJ10 : String := "java/lang/System"
def TJ10 : u_T := fun k => match k with
  | _ => ("", "", "", false)
def tyJ10 : Nat → FieldType := fun k => match k with
  | _ => .int
abbrev wsJ100 : List Cond := u_ws RJ10 TJ10 0
theorem nmJ10 : ∀ a, a < 0 → ∀ b, b < 0 → a ≠ b → (TJ10 a).2.1 ≠ (TJ10 b).2.1 := by decide +kernel
theorem tyJ10_ok : ∀ k, k < 0 → parseFieldDescriptor (TJ10 k).2.2.1 = some (tyJ10 k) := by decide +kernel
def RJ7 : String := "java/util/Arrays"
def TJ7 : u_T := fun k => match k with
  | _ => ("", "", "", false)
def tyJ7 : Nat → FieldType := fun k => match k with
  | _ => .int
abbrev wsJ70 : List Cond := u_ws RJ7 TJ7 0
theorem nmJ7 : ∀ a, a < 0 → ∀ b, b < 0 → a ≠ b → (TJ7 a).2.1 ≠ (TJ7 b).2.1 := by decide +kernel
theorem tyJ7_ok : ∀ k, k < 0 → parseFieldDescriptor (TJ7 k).2.2.1 = some (tyJ7 k) := by decide +kernel
abbrev cJ7_fill_53178 : ByteArray := prog_20_method_103_code
def yJ7_fill_53178 : MethodName := ⟨RJ7, "fill", "([II)V"⟩
def RL : String := "ScoreboardCoreLaw"
abbrev cL_write : ByteArray := method_3_code
def yL_write : MethodName := ⟨RL, "write", "(LScoreboardCore;IJ[J)I"⟩
abbrev cL_read : ByteArray := method_4_code
def yL_read : MethodName := ⟨RL, "read", "(LScoreboardCore;I[J)I"⟩
abbrev cL_register : ByteArray := method_5_code
def yL_register : MethodName := ⟨RL, "register", "(LScoreboardCore;I[J)I"⟩
abbrev cL_put : ByteArray := method_6_code
def yL_put : MethodName := ⟨RL, "put", "(LScoreboardCore;IJ)I"⟩
abbrev cL_start : ByteArray := method_7_code
def yL_start : MethodName := ⟨RL, "start", "(LScoreboardCore;I)I"⟩
abbrev cL_run : ByteArray := method_8_code
def yL_run : MethodName := ⟨RL, "run", "(LScoreboardCore;I[J)I"⟩
abbrev cL_done : ByteArray := method_9_code
def yL_done : MethodName := ⟨RL, "done", "(LScoreboardCore;I[J)I"⟩
abbrev cL_waited : ByteArray := method_10_code
def yL_waited : MethodName := ⟨RL, "waited", "(LScoreboardCore;I[J)I"⟩
abbrev cL_law : ByteArray := code
def yL_law : MethodName := ⟨RL, "law", "([I)Z"⟩
def wsX0_init : List Cond := .code yX0_init cX0_init 1 none :: ([.methodLink RX0 3 objectInit, .instanceMethod objectInit, .code objectInit ⟨#[0xb1]⟩ 1 none, .arrayClass .int, .fieldLink RX0 11 "ScoreboardCore$Board" "doneCounts" "[I", .arrayClass .long, .fieldLink RX0 15 "ScoreboardCore$Board" "waitCounts" "[J", .fieldLink RX0 19 "ScoreboardCore$Board" "unitFreeFrom" "[I", .fieldLink RX0 22 "ScoreboardCore$Board" "registerFreeFrom" "[I", .fieldLink RX0 25 "ScoreboardCore$Board" "registerLastRead" "[I"] ++ wsX00)
def wsX0_doneBy : List Cond := .code yX0_doneBy cX0_doneBy 2 (some .int) :: ([.fieldLink RX0 11 "ScoreboardCore$Board" "doneCounts" "[I"] ++ wsX00)
def wsX0_waitedFor : List Cond := .code yX0_waitedFor cX0_waitedFor 2 (some .long) :: ([.fieldLink RX0 15 "ScoreboardCore$Board" "waitCounts" "[J"] ++ wsX00)
def wsX0_cyclesCounted : List Cond := .code yX0_cyclesCounted cX0_cyclesCounted 1 (some .long) :: ([.fieldLink RX0 28 "ScoreboardCore$Board" "counted" "J"] ++ wsX00)
def wsJ7_fill_53178 : List Cond := .code yJ7_fill_53178 cJ7_fill_53178 4 none :: ([])
def wsX0_empty : List Cond := .code yX0_empty cX0_empty 1 none :: ([.fieldLink RX0 19 "ScoreboardCore$Board" "unitFreeFrom" "[I", .fieldLink RX0 22 "ScoreboardCore$Board" "registerFreeFrom" "[I", .fieldLink RX0 25 "ScoreboardCore$Board" "registerLastRead" "[I", .fieldLink RX0 38 "ScoreboardCore$Board" "memoryLastEnd" "I", .fieldLink RX0 42 "ScoreboardCore$Board" "earliest" "I", .fieldLink RX0 45 "ScoreboardCore$Board" "last" "I", .methodLink RX0 32 yJ7_fill_53178, .static yJ7_fill_53178, .initialized RJ7, .code yJ7_fill_53178 cJ7_fill_53178 4 none] ++ wsX00)
def wsX0_countCycles : List Cond := .code yX0_countCycles cX0_countCycles 1 none :: ([.fieldLink RX0 28 "ScoreboardCore$Board" "counted" "J", .fieldLink RX0 45 "ScoreboardCore$Board" "last" "I"] ++ wsX00)
def wsX1_unit : List Cond := .code yX1_unit cX1_unit 1 (some .int) :: ([.fieldLink RX1 45 "ScoreboardCore$Instruction" "unit" "I"] ++ wsX10)
def wsX0_waitFor : List Cond := .code yX0_waitFor cX0_waitFor 5 (some .int) :: ([.methodLink RX0 118 Lib.Math.max.name, .static Lib.Math.max.name, .initialized "java/lang/Math", .code Lib.Math.max.name Lib.Math.max.code 2 (some .int), .fieldLink RX0 15 "ScoreboardCore$Board" "waitCounts" "[J"] ++ wsX00)
def wsX1_results : List Cond := .code yX1_results cX1_results 1 (some (.object "ScoreboardCore$RegisterList")) :: ([.fieldLink RX1 18 "ScoreboardCore$Instruction" "results" "LScoreboardCore$RegisterList;"] ++ wsX10)
def wsX5_latestIn : List Cond := .code yX5_latestIn cX5_latestIn 4 (some .int) :: ([.fieldLink RX5 15 "ScoreboardCore$RegisterList" "size" "I", .fieldLink RX5 11 "ScoreboardCore$RegisterList" "numbers" "[I", .methodLink RX5 23 Lib.Math.max.name, .static Lib.Math.max.name, .initialized "java/lang/Math", .code Lib.Math.max.name Lib.Math.max.code 2 (some .int)] ++ wsX50)
def wsX0_givenOutAt_r1 : List Cond := [Cond.fieldLink RX0 19 "ScoreboardCore$Board" "unitFreeFrom" "[I", Cond.methodLink RX0 86 Lib.Math.min.name, Cond.static Lib.Math.min.name, Cond.initialized "java/lang/Math", Cond.code Lib.Math.min.name Lib.Math.min.code 2 (some .int), Cond.fieldLink RX0 42 "ScoreboardCore$Board" "earliest" "I", Cond.fieldLink RX0 22 "ScoreboardCore$Board" "registerFreeFrom" "[I", Cond.methodLink RX0 48 yX1_unit, Cond.instanceMethod yX1_unit, Cond.selects RX1 yX1_unit yX1_unit, Cond.initialized RX1, Cond.code yX1_unit cX1_unit 1 (some .int), Cond.fieldLink RX1 45 "ScoreboardCore$Instruction" "unit" "I", Cond.methodLink RX0 82 yX0_waitFor, Cond.instanceMethod yX0_waitFor, Cond.selects RX0 yX0_waitFor yX0_waitFor, Cond.initialized RX0, Cond.code yX0_waitFor cX0_waitFor 5 (some .int), Cond.methodLink RX0 118 Lib.Math.max.name, Cond.static Lib.Math.max.name, Cond.code Lib.Math.max.name Lib.Math.max.code 2 (some .int), Cond.fieldLink RX0 15 "ScoreboardCore$Board" "waitCounts" "[J", Cond.methodLink RX0 92 yX1_results, Cond.instanceMethod yX1_results]
def wsX0_givenOutAt_r2 : List Cond := [Cond.selects RX1 yX1_results yX1_results, Cond.code yX1_results cX1_results 1 (some (.object "ScoreboardCore$RegisterList")), Cond.fieldLink RX1 18 "ScoreboardCore$Instruction" "results" "LScoreboardCore$RegisterList;", Cond.methodLink RX0 73 yX5_latestIn, Cond.instanceMethod yX5_latestIn, Cond.selects RX5 yX5_latestIn yX5_latestIn, Cond.initialized RX5, Cond.code yX5_latestIn cX5_latestIn 4 (some .int), Cond.fieldLink RX5 15 "ScoreboardCore$RegisterList" "size" "I", Cond.fieldLink RX5 11 "ScoreboardCore$RegisterList" "numbers" "[I", Cond.methodLink RX5 23 Lib.Math.max.name]
def wsX0_givenOutAt : List Cond := .code yX0_givenOutAt cX0_givenOutAt 5 (some .int) :: ((wsX0_givenOutAt_r1 ++ wsX0_givenOutAt_r2) ++ wsX00 ++ wsX10 ++ wsX50)
def wsX0_unitFreeAt : List Cond := .code yX0_unitFreeAt cX0_unitFreeAt 4 (some .int) :: ([.fieldLink RX0 19 "ScoreboardCore$Board" "unitFreeFrom" "[I"] ++ wsX00)
def wsX1_needs : List Cond := .code yX1_needs cX1_needs 1 (some (.object "ScoreboardCore$RegisterList")) :: ([.fieldLink RX1 14 "ScoreboardCore$Instruction" "needs" "LScoreboardCore$RegisterList;"] ++ wsX10)
def wsX1_loads : List Cond := .code yX1_loads cX1_loads 1 (some .boolean) :: ([.fieldLink RX1 25 "ScoreboardCore$Instruction" "op" "I", .fieldLink RX1 28 "ScoreboardCore$Instruction" "i" "I"] ++ wsX10)
def wsX1_stores : List Cond := .code yX1_stores cX1_stores 1 (some .boolean) :: ([.fieldLink RX1 25 "ScoreboardCore$Instruction" "op" "I", .fieldLink RX1 28 "ScoreboardCore$Instruction" "i" "I"] ++ wsX10)
def wsX0_endsAt_r1 : List Cond := [Cond.fieldLink RX0 25 "ScoreboardCore$Board" "registerLastRead" "[I", Cond.fieldLink RX0 38 "ScoreboardCore$Board" "memoryLastEnd" "I", Cond.methodLink RX0 118 Lib.Math.max.name, Cond.static Lib.Math.max.name, Cond.initialized "java/lang/Math", Cond.code Lib.Math.max.name Lib.Math.max.code 2 (some .int), Cond.methodLink RX0 92 yX1_results, Cond.instanceMethod yX1_results, Cond.selects RX1 yX1_results yX1_results, Cond.initialized RX1, Cond.code yX1_results cX1_results 1 (some (.object "ScoreboardCore$RegisterList")), Cond.fieldLink RX1 18 "ScoreboardCore$Instruction" "results" "LScoreboardCore$RegisterList;", Cond.methodLink RX0 73 yX5_latestIn, Cond.instanceMethod yX5_latestIn, Cond.selects RX5 yX5_latestIn yX5_latestIn, Cond.initialized RX5, Cond.code yX5_latestIn cX5_latestIn 4 (some .int), Cond.fieldLink RX5 15 "ScoreboardCore$RegisterList" "size" "I", Cond.fieldLink RX5 11 "ScoreboardCore$RegisterList" "numbers" "[I", Cond.methodLink RX5 23 Lib.Math.max.name, Cond.methodLink RX0 108 yX1_loads, Cond.instanceMethod yX1_loads, Cond.selects RX1 yX1_loads yX1_loads, Cond.code yX1_loads cX1_loads 1 (some .boolean)]
def wsX0_endsAt_r2 : List Cond := [Cond.fieldLink RX1 25 "ScoreboardCore$Instruction" "op" "I", Cond.fieldLink RX1 28 "ScoreboardCore$Instruction" "i" "I", Cond.methodLink RX0 112 yX1_stores, Cond.instanceMethod yX1_stores, Cond.selects RX1 yX1_stores yX1_stores, Cond.code yX1_stores cX1_stores 1 (some .boolean), Cond.methodLink RX0 82 yX0_waitFor, Cond.instanceMethod yX0_waitFor, Cond.selects RX0 yX0_waitFor yX0_waitFor, Cond.initialized RX0, Cond.code yX0_waitFor cX0_waitFor 5 (some .int), Cond.fieldLink RX0 15 "ScoreboardCore$Board" "waitCounts" "[J"]
def wsX0_endsAt : List Cond := .code yX0_endsAt cX0_endsAt 4 (some .int) :: ((wsX0_endsAt_r1 ++ wsX0_endsAt_r2) ++ wsX00 ++ wsX10 ++ wsX50)
def wsX5_raiseIn : List Cond := .code yX5_raiseIn cX5_raiseIn 5 none :: ([.fieldLink RX5 15 "ScoreboardCore$RegisterList" "size" "I", .fieldLink RX5 11 "ScoreboardCore$RegisterList" "numbers" "[I", .methodLink RX5 23 Lib.Math.max.name, .static Lib.Math.max.name, .initialized "java/lang/Math", .code Lib.Math.max.name Lib.Math.max.code 2 (some .int)] ++ wsX50)
def wsX0_reach : List Cond := .code yX0_reach cX0_reach 2 none :: ([.fieldLink RX0 45 "ScoreboardCore$Board" "last" "I", .methodLink RX0 118 Lib.Math.max.name, .static Lib.Math.max.name, .initialized "java/lang/Math", .code Lib.Math.max.name Lib.Math.max.code 2 (some .int)] ++ wsX00)
def wsX1_i : List Cond := .code yX1_i cX1_i 1 (some .int) :: ([.fieldLink RX1 28 "ScoreboardCore$Instruction" "i" "I"] ++ wsX10)
def wsX0_occupyUnit_r1 : List Cond := [Cond.fieldLink RX0 22 "ScoreboardCore$Board" "registerFreeFrom" "[I", Cond.fieldLink RX0 98 "ScoreboardCore$Board" "UNIT_CYCLES" "[I", Cond.fieldLink RX0 25 "ScoreboardCore$Board" "registerLastRead" "[I", Cond.fieldLink RX0 19 "ScoreboardCore$Board" "unitFreeFrom" "[I", Cond.fieldLink RX0 11 "ScoreboardCore$Board" "doneCounts" "[I", Cond.fieldLink RX0 38 "ScoreboardCore$Board" "memoryLastEnd" "I", Cond.methodLink RX0 48 yX1_unit, Cond.instanceMethod yX1_unit, Cond.selects RX1 yX1_unit yX1_unit, Cond.initialized RX1, Cond.code yX1_unit cX1_unit 1 (some .int), Cond.fieldLink RX1 45 "ScoreboardCore$Instruction" "unit" "I", Cond.methodLink RX0 95 yX0_unitFreeAt, Cond.instanceMethod yX0_unitFreeAt, Cond.selects RX0 yX0_unitFreeAt yX0_unitFreeAt, Cond.initialized RX0, Cond.code yX0_unitFreeAt cX0_unitFreeAt 4 (some .int), Cond.methodLink RX0 69 yX1_needs, Cond.instanceMethod yX1_needs, Cond.selects RX1 yX1_needs yX1_needs, Cond.code yX1_needs cX1_needs 1 (some (.object "ScoreboardCore$RegisterList")), Cond.fieldLink RX1 14 "ScoreboardCore$Instruction" "needs" "LScoreboardCore$RegisterList;", Cond.methodLink RX0 73 yX5_latestIn, Cond.instanceMethod yX5_latestIn]
def wsX0_occupyUnit_r2 : List Cond := [Cond.selects RX5 yX5_latestIn yX5_latestIn, Cond.initialized RX5, Cond.code yX5_latestIn cX5_latestIn 4 (some .int), Cond.fieldLink RX5 15 "ScoreboardCore$RegisterList" "size" "I", Cond.fieldLink RX5 11 "ScoreboardCore$RegisterList" "numbers" "[I", Cond.methodLink RX5 23 Lib.Math.max.name, Cond.static Lib.Math.max.name, Cond.initialized "java/lang/Math", Cond.code Lib.Math.max.name Lib.Math.max.code 2 (some .int), Cond.methodLink RX0 82 yX0_waitFor, Cond.instanceMethod yX0_waitFor, Cond.selects RX0 yX0_waitFor yX0_waitFor, Cond.code yX0_waitFor cX0_waitFor 5 (some .int), Cond.methodLink RX0 118 Lib.Math.max.name, Cond.fieldLink RX0 15 "ScoreboardCore$Board" "waitCounts" "[J", Cond.methodLink RX0 101 yX0_endsAt, Cond.instanceMethod yX0_endsAt, Cond.selects RX0 yX0_endsAt yX0_endsAt, Cond.code yX0_endsAt cX0_endsAt 4 (some .int), Cond.methodLink RX0 92 yX1_results, Cond.instanceMethod yX1_results, Cond.selects RX1 yX1_results yX1_results, Cond.code yX1_results cX1_results 1 (some (.object "ScoreboardCore$RegisterList")), Cond.fieldLink RX1 18 "ScoreboardCore$Instruction" "results" "LScoreboardCore$RegisterList;"]
def wsX0_occupyUnit_r3 : List Cond := [Cond.methodLink RX0 108 yX1_loads, Cond.instanceMethod yX1_loads, Cond.selects RX1 yX1_loads yX1_loads, Cond.code yX1_loads cX1_loads 1 (some .boolean), Cond.fieldLink RX1 25 "ScoreboardCore$Instruction" "op" "I", Cond.fieldLink RX1 28 "ScoreboardCore$Instruction" "i" "I", Cond.methodLink RX0 112 yX1_stores, Cond.instanceMethod yX1_stores, Cond.selects RX1 yX1_stores yX1_stores, Cond.code yX1_stores cX1_stores 1 (some .boolean), Cond.methodLink RX0 105 yX5_raiseIn, Cond.instanceMethod yX5_raiseIn, Cond.selects RX5 yX5_raiseIn yX5_raiseIn, Cond.code yX5_raiseIn cX5_raiseIn 5 none, Cond.methodLink RX0 62 yX0_reach, Cond.instanceMethod yX0_reach, Cond.selects RX0 yX0_reach yX0_reach, Cond.code yX0_reach cX0_reach 2 none, Cond.fieldLink RX0 45 "ScoreboardCore$Board" "last" "I", Cond.methodLink RX0 115 yX1_i, Cond.instanceMethod yX1_i, Cond.selects RX1 yX1_i yX1_i, Cond.code yX1_i cX1_i 1 (some .int)]
def wsX0_occupyUnit : List Cond := .code yX0_occupyUnit cX0_occupyUnit 6 none :: ((wsX0_occupyUnit_r1 ++ (wsX0_occupyUnit_r2 ++ wsX0_occupyUnit_r3)) ++ wsX00 ++ wsX10 ++ wsX50)
def wsX1_isJump : List Cond := .code yX1_isJump cX1_isJump 1 (some .boolean) :: ([.fieldLink RX1 25 "ScoreboardCore$Instruction" "op" "I"] ++ wsX10)
def wsX1_parcels : List Cond := .code yX1_parcels cX1_parcels 2 (some .int) :: ([.fieldLink RX1 25 "ScoreboardCore$Instruction" "op" "I", .methodLink RX1 57 yX1_isJump, .instanceMethod yX1_isJump, .selects RX1 yX1_isJump yX1_isJump, .initialized RX1, .code yX1_isJump cX1_isJump 1 (some .boolean)] ++ wsX10)
def wsX0_giveOut_r1 : List Cond := [Cond.fieldLink RX0 42 "ScoreboardCore$Board" "earliest" "I", Cond.methodLink RX0 48 yX1_unit, Cond.instanceMethod yX1_unit, Cond.selects RX1 yX1_unit yX1_unit, Cond.initialized RX1, Cond.code yX1_unit cX1_unit 1 (some .int), Cond.fieldLink RX1 45 "ScoreboardCore$Instruction" "unit" "I", Cond.methodLink RX0 54 yX0_givenOutAt, Cond.instanceMethod yX0_givenOutAt, Cond.selects RX0 yX0_givenOutAt yX0_givenOutAt, Cond.initialized RX0, Cond.code yX0_givenOutAt cX0_givenOutAt 5 (some .int), Cond.fieldLink RX0 19 "ScoreboardCore$Board" "unitFreeFrom" "[I", Cond.methodLink RX0 86 Lib.Math.min.name, Cond.static Lib.Math.min.name, Cond.initialized "java/lang/Math", Cond.code Lib.Math.min.name Lib.Math.min.code 2 (some .int), Cond.fieldLink RX0 22 "ScoreboardCore$Board" "registerFreeFrom" "[I", Cond.methodLink RX0 82 yX0_waitFor, Cond.instanceMethod yX0_waitFor, Cond.selects RX0 yX0_waitFor yX0_waitFor, Cond.code yX0_waitFor cX0_waitFor 5 (some .int), Cond.methodLink RX0 118 Lib.Math.max.name, Cond.static Lib.Math.max.name]
def wsX0_giveOut_r2 : List Cond := [Cond.code Lib.Math.max.name Lib.Math.max.code 2 (some .int), Cond.fieldLink RX0 15 "ScoreboardCore$Board" "waitCounts" "[J", Cond.methodLink RX0 92 yX1_results, Cond.instanceMethod yX1_results, Cond.selects RX1 yX1_results yX1_results, Cond.code yX1_results cX1_results 1 (some (.object "ScoreboardCore$RegisterList")), Cond.fieldLink RX1 18 "ScoreboardCore$Instruction" "results" "LScoreboardCore$RegisterList;", Cond.methodLink RX0 73 yX5_latestIn, Cond.instanceMethod yX5_latestIn, Cond.selects RX5 yX5_latestIn yX5_latestIn, Cond.initialized RX5, Cond.code yX5_latestIn cX5_latestIn 4 (some .int), Cond.fieldLink RX5 15 "ScoreboardCore$RegisterList" "size" "I", Cond.fieldLink RX5 11 "ScoreboardCore$RegisterList" "numbers" "[I", Cond.methodLink RX5 23 Lib.Math.max.name, Cond.methodLink RX0 58 yX0_occupyUnit, Cond.instanceMethod yX0_occupyUnit, Cond.selects RX0 yX0_occupyUnit yX0_occupyUnit, Cond.code yX0_occupyUnit cX0_occupyUnit 6 none, Cond.fieldLink RX0 98 "ScoreboardCore$Board" "UNIT_CYCLES" "[I", Cond.fieldLink RX0 25 "ScoreboardCore$Board" "registerLastRead" "[I", Cond.fieldLink RX0 11 "ScoreboardCore$Board" "doneCounts" "[I", Cond.fieldLink RX0 38 "ScoreboardCore$Board" "memoryLastEnd" "I", Cond.methodLink RX0 95 yX0_unitFreeAt]
def wsX0_giveOut_r3 : List Cond := [Cond.instanceMethod yX0_unitFreeAt, Cond.selects RX0 yX0_unitFreeAt yX0_unitFreeAt, Cond.code yX0_unitFreeAt cX0_unitFreeAt 4 (some .int), Cond.methodLink RX0 69 yX1_needs, Cond.instanceMethod yX1_needs, Cond.selects RX1 yX1_needs yX1_needs, Cond.code yX1_needs cX1_needs 1 (some (.object "ScoreboardCore$RegisterList")), Cond.fieldLink RX1 14 "ScoreboardCore$Instruction" "needs" "LScoreboardCore$RegisterList;", Cond.methodLink RX0 101 yX0_endsAt, Cond.instanceMethod yX0_endsAt, Cond.selects RX0 yX0_endsAt yX0_endsAt, Cond.code yX0_endsAt cX0_endsAt 4 (some .int), Cond.methodLink RX0 108 yX1_loads, Cond.instanceMethod yX1_loads, Cond.selects RX1 yX1_loads yX1_loads, Cond.code yX1_loads cX1_loads 1 (some .boolean), Cond.fieldLink RX1 25 "ScoreboardCore$Instruction" "op" "I", Cond.fieldLink RX1 28 "ScoreboardCore$Instruction" "i" "I", Cond.methodLink RX0 112 yX1_stores, Cond.instanceMethod yX1_stores, Cond.selects RX1 yX1_stores yX1_stores, Cond.code yX1_stores cX1_stores 1 (some .boolean), Cond.methodLink RX0 105 yX5_raiseIn, Cond.instanceMethod yX5_raiseIn]
def wsX0_giveOut_r4 : List Cond := [Cond.selects RX5 yX5_raiseIn yX5_raiseIn, Cond.code yX5_raiseIn cX5_raiseIn 5 none, Cond.methodLink RX0 62 yX0_reach, Cond.instanceMethod yX0_reach, Cond.selects RX0 yX0_reach yX0_reach, Cond.code yX0_reach cX0_reach 2 none, Cond.fieldLink RX0 45 "ScoreboardCore$Board" "last" "I", Cond.methodLink RX0 115 yX1_i, Cond.instanceMethod yX1_i, Cond.selects RX1 yX1_i yX1_i, Cond.code yX1_i cX1_i 1 (some .int), Cond.methodLink RX0 66 yX1_parcels, Cond.instanceMethod yX1_parcels, Cond.selects RX1 yX1_parcels yX1_parcels, Cond.code yX1_parcels cX1_parcels 2 (some .int), Cond.methodLink RX1 57 yX1_isJump, Cond.instanceMethod yX1_isJump, Cond.selects RX1 yX1_isJump yX1_isJump, Cond.code yX1_isJump cX1_isJump 1 (some .boolean)]
def wsX0_giveOut : List Cond := .code yX0_giveOut cX0_giveOut 3 none :: ((wsX0_giveOut_r1 ++ (wsX0_giveOut_r2 ++ (wsX0_giveOut_r3 ++ wsX0_giveOut_r4))) ++ wsX00 ++ wsX10 ++ wsX50)
def wsX1_op : List Cond := .code yX1_op cX1_op 1 (some .int) :: ([.fieldLink RX1 25 "ScoreboardCore$Instruction" "op" "I"] ++ wsX10)
def wsX0_doJump_r1 : List Cond := [Cond.fieldLink RX0 22 "ScoreboardCore$Board" "registerFreeFrom" "[I", Cond.fieldLink RX0 38 "ScoreboardCore$Board" "memoryLastEnd" "I", Cond.fieldLink RX0 42 "ScoreboardCore$Board" "earliest" "I", Cond.fieldLink RX0 11 "ScoreboardCore$Board" "doneCounts" "[I", Cond.methodLink RX0 69 yX1_needs, Cond.instanceMethod yX1_needs, Cond.selects RX1 yX1_needs yX1_needs, Cond.initialized RX1, Cond.code yX1_needs cX1_needs 1 (some (.object "ScoreboardCore$RegisterList")), Cond.fieldLink RX1 14 "ScoreboardCore$Instruction" "needs" "LScoreboardCore$RegisterList;", Cond.methodLink RX0 73 yX5_latestIn, Cond.instanceMethod yX5_latestIn, Cond.selects RX5 yX5_latestIn yX5_latestIn, Cond.initialized RX5, Cond.code yX5_latestIn cX5_latestIn 4 (some .int), Cond.fieldLink RX5 15 "ScoreboardCore$RegisterList" "size" "I", Cond.fieldLink RX5 11 "ScoreboardCore$RegisterList" "numbers" "[I", Cond.methodLink RX5 23 Lib.Math.max.name, Cond.static Lib.Math.max.name, Cond.initialized "java/lang/Math", Cond.code Lib.Math.max.name Lib.Math.max.code 2 (some .int), Cond.methodLink RX0 79 yX1_op, Cond.instanceMethod yX1_op, Cond.selects RX1 yX1_op yX1_op]
def wsX0_doJump_r2 : List Cond := [Cond.code yX1_op cX1_op 1 (some .int), Cond.fieldLink RX1 25 "ScoreboardCore$Instruction" "op" "I", Cond.methodLink RX0 82 yX0_waitFor, Cond.instanceMethod yX0_waitFor, Cond.selects RX0 yX0_waitFor yX0_waitFor, Cond.initialized RX0, Cond.code yX0_waitFor cX0_waitFor 5 (some .int), Cond.methodLink RX0 118 Lib.Math.max.name, Cond.fieldLink RX0 15 "ScoreboardCore$Board" "waitCounts" "[J", Cond.methodLink RX0 62 yX0_reach, Cond.instanceMethod yX0_reach, Cond.selects RX0 yX0_reach yX0_reach, Cond.code yX0_reach cX0_reach 2 none, Cond.fieldLink RX0 45 "ScoreboardCore$Board" "last" "I"]
def wsX0_doJump : List Cond := .code yX0_doJump cX0_doJump 5 none :: ((wsX0_doJump_r1 ++ wsX0_doJump_r2) ++ wsX00 ++ wsX10 ++ wsX50)
def wsX5_init : List Cond := .code yX5_init cX5_init 1 none :: ([.methodLink RX5 3 objectInit, .instanceMethod objectInit, .code objectInit ⟨#[0xb1]⟩ 1 none, .arrayClass .int, .fieldLink RX5 11 "ScoreboardCore$RegisterList" "numbers" "[I"] ++ wsX50)
def wsX1_init : List Cond := .code yX1_init cX1_init 1 none :: ([.methodLink RX1 5 objectInit, .instanceMethod objectInit, .code objectInit ⟨#[0xb1]⟩ 1 none, .classLink RX1 11 RX5, .instantiable RX5 2, .initialized RX5, .fieldLink RX1 14 "ScoreboardCore$Instruction" "needs" "LScoreboardCore$RegisterList;", .fieldLink RX1 18 "ScoreboardCore$Instruction" "results" "LScoreboardCore$RegisterList;", .instanceMethod yX5_init, .code yX5_init cX5_init 1 none, .methodLink RX5 3 objectInit, .arrayClass .int, .fieldLink RX5 11 "ScoreboardCore$RegisterList" "numbers" "[I"] ++ wsX50 ++ wsX10)
def wsX1_unitOf : List Cond := .code yX1_unitOf cX1_unitOf 1 (some .int) :: ([])
def wsX5_clear : List Cond := .code yX5_clear cX5_clear 1 none :: ([.fieldLink RX5 15 "ScoreboardCore$RegisterList" "size" "I"] ++ wsX50)
def wsX5_add : List Cond := .code yX5_add cX5_add 2 none :: ([.fieldLink RX5 15 "ScoreboardCore$RegisterList" "size" "I", .fieldLink RX5 11 "ScoreboardCore$RegisterList" "numbers" "[I"] ++ wsX50)
def wsX5_addX : List Cond := .code yX5_addX cX5_addX 2 none :: ([.methodLink RX5 19 yX5_add, .instanceMethod yX5_add, .selects RX5 yX5_add yX5_add, .initialized RX5, .code yX5_add cX5_add 2 none, .fieldLink RX5 15 "ScoreboardCore$RegisterList" "size" "I", .fieldLink RX5 11 "ScoreboardCore$RegisterList" "numbers" "[I"] ++ wsX50)
def wsX1_listLogicNeeds : List Cond := .code yX1_listLogicNeeds cX1_listLogicNeeds 1 none :: ([.fieldLink RX1 25 "ScoreboardCore$Instruction" "op" "I", .fieldLink RX1 14 "ScoreboardCore$Instruction" "needs" "LScoreboardCore$RegisterList;", .fieldLink RX1 31 "ScoreboardCore$Instruction" "j" "I", .fieldLink RX1 34 "ScoreboardCore$Instruction" "k" "I", .methodLink RX1 71 yX5_addX, .instanceMethod yX5_addX, .selects RX5 yX5_addX yX5_addX, .initialized RX5, .code yX5_addX cX5_addX 2 none, .methodLink RX5 19 yX5_add, .instanceMethod yX5_add, .selects RX5 yX5_add yX5_add, .code yX5_add cX5_add 2 none, .fieldLink RX5 15 "ScoreboardCore$RegisterList" "size" "I", .fieldLink RX5 11 "ScoreboardCore$RegisterList" "numbers" "[I"] ++ wsX10 ++ wsX50)
def wsX5_addB : List Cond := .code yX5_addB cX5_addB 2 none :: ([.methodLink RX5 19 yX5_add, .instanceMethod yX5_add, .selects RX5 yX5_add yX5_add, .initialized RX5, .code yX5_add cX5_add 2 none, .fieldLink RX5 15 "ScoreboardCore$RegisterList" "size" "I", .fieldLink RX5 11 "ScoreboardCore$RegisterList" "numbers" "[I"] ++ wsX50)
def wsX1_listShiftNeeds : List Cond := .code yX1_listShiftNeeds cX1_listShiftNeeds 1 none :: ([.fieldLink RX1 25 "ScoreboardCore$Instruction" "op" "I", .fieldLink RX1 14 "ScoreboardCore$Instruction" "needs" "LScoreboardCore$RegisterList;", .fieldLink RX1 28 "ScoreboardCore$Instruction" "i" "I", .fieldLink RX1 31 "ScoreboardCore$Instruction" "j" "I", .fieldLink RX1 34 "ScoreboardCore$Instruction" "k" "I", .methodLink RX1 71 yX5_addX, .instanceMethod yX5_addX, .selects RX5 yX5_addX yX5_addX, .initialized RX5, .code yX5_addX cX5_addX 2 none, .methodLink RX5 19 yX5_add, .instanceMethod yX5_add, .selects RX5 yX5_add yX5_add, .code yX5_add cX5_add 2 none, .fieldLink RX5 15 "ScoreboardCore$RegisterList" "size" "I", .fieldLink RX5 11 "ScoreboardCore$RegisterList" "numbers" "[I", .methodLink RX1 81 yX5_addB, .instanceMethod yX5_addB, .selects RX5 yX5_addB yX5_addB, .code yX5_addB cX5_addB 2 none] ++ wsX10 ++ wsX50)
def wsX5_addA : List Cond := .code yX5_addA cX5_addA 2 none :: ([.methodLink RX5 19 yX5_add, .instanceMethod yX5_add, .selects RX5 yX5_add yX5_add, .initialized RX5, .code yX5_add cX5_add 2 none, .fieldLink RX5 15 "ScoreboardCore$RegisterList" "size" "I", .fieldLink RX5 11 "ScoreboardCore$RegisterList" "numbers" "[I"] ++ wsX50)
def wsX1_listAddressNeeds_r1 : List Cond := [Cond.fieldLink RX1 25 "ScoreboardCore$Instruction" "op" "I", Cond.fieldLink RX1 14 "ScoreboardCore$Instruction" "needs" "LScoreboardCore$RegisterList;", Cond.fieldLink RX1 31 "ScoreboardCore$Instruction" "j" "I", Cond.fieldLink RX1 34 "ScoreboardCore$Instruction" "k" "I", Cond.fieldLink RX1 28 "ScoreboardCore$Instruction" "i" "I", Cond.methodLink RX1 84 yX5_addA, Cond.instanceMethod yX5_addA, Cond.selects RX5 yX5_addA yX5_addA, Cond.initialized RX5, Cond.code yX5_addA cX5_addA 2 none, Cond.methodLink RX5 19 yX5_add, Cond.instanceMethod yX5_add, Cond.selects RX5 yX5_add yX5_add, Cond.code yX5_add cX5_add 2 none, Cond.fieldLink RX5 15 "ScoreboardCore$RegisterList" "size" "I", Cond.fieldLink RX5 11 "ScoreboardCore$RegisterList" "numbers" "[I", Cond.methodLink RX1 71 yX5_addX, Cond.instanceMethod yX5_addX, Cond.selects RX5 yX5_addX yX5_addX, Cond.code yX5_addX cX5_addX 2 none, Cond.methodLink RX1 81 yX5_addB, Cond.instanceMethod yX5_addB, Cond.selects RX5 yX5_addB yX5_addB, Cond.code yX5_addB cX5_addB 2 none]
def wsX1_listAddressNeeds_r2 : List Cond := [Cond.methodLink RX1 61 yX1_parcels, Cond.instanceMethod yX1_parcels, Cond.selects RX1 yX1_parcels yX1_parcels, Cond.initialized RX1, Cond.code yX1_parcels cX1_parcels 2 (some .int), Cond.methodLink RX1 57 yX1_isJump, Cond.instanceMethod yX1_isJump, Cond.selects RX1 yX1_isJump yX1_isJump, Cond.code yX1_isJump cX1_isJump 1 (some .boolean), Cond.methodLink RX1 87 yX1_stores, Cond.instanceMethod yX1_stores, Cond.selects RX1 yX1_stores yX1_stores, Cond.code yX1_stores cX1_stores 1 (some .boolean)]
def wsX1_listAddressNeeds : List Cond := .code yX1_listAddressNeeds cX1_listAddressNeeds 1 none :: ((wsX1_listAddressNeeds_r1 ++ wsX1_listAddressNeeds_r2) ++ wsX10 ++ wsX50)
def wsX1_listJumpNeeds : List Cond := .code yX1_listJumpNeeds cX1_listJumpNeeds 1 none :: ([.fieldLink RX1 25 "ScoreboardCore$Instruction" "op" "I", .fieldLink RX1 14 "ScoreboardCore$Instruction" "needs" "LScoreboardCore$RegisterList;", .fieldLink RX1 31 "ScoreboardCore$Instruction" "j" "I", .fieldLink RX1 28 "ScoreboardCore$Instruction" "i" "I", .methodLink RX1 71 yX5_addX, .instanceMethod yX5_addX, .selects RX5 yX5_addX yX5_addX, .initialized RX5, .code yX5_addX cX5_addX 2 none, .methodLink RX5 19 yX5_add, .instanceMethod yX5_add, .selects RX5 yX5_add yX5_add, .code yX5_add cX5_add 2 none, .fieldLink RX5 15 "ScoreboardCore$RegisterList" "size" "I", .fieldLink RX5 11 "ScoreboardCore$RegisterList" "numbers" "[I", .methodLink RX1 81 yX5_addB, .instanceMethod yX5_addB, .selects RX5 yX5_addB yX5_addB, .code yX5_addB cX5_addB 2 none] ++ wsX10 ++ wsX50)
def wsX1_listNeeds_r1 : List Cond := [Cond.fieldLink RX1 45 "ScoreboardCore$Instruction" "unit" "I", Cond.fieldLink RX1 14 "ScoreboardCore$Instruction" "needs" "LScoreboardCore$RegisterList;", Cond.fieldLink RX1 31 "ScoreboardCore$Instruction" "j" "I", Cond.fieldLink RX1 34 "ScoreboardCore$Instruction" "k" "I", Cond.methodLink RX1 65 yX1_listLogicNeeds, Cond.instanceMethod yX1_listLogicNeeds, Cond.selects RX1 yX1_listLogicNeeds yX1_listLogicNeeds, Cond.initialized RX1, Cond.code yX1_listLogicNeeds cX1_listLogicNeeds 1 none, Cond.fieldLink RX1 25 "ScoreboardCore$Instruction" "op" "I", Cond.methodLink RX1 71 yX5_addX, Cond.instanceMethod yX5_addX, Cond.selects RX5 yX5_addX yX5_addX, Cond.initialized RX5, Cond.code yX5_addX cX5_addX 2 none, Cond.methodLink RX5 19 yX5_add, Cond.instanceMethod yX5_add, Cond.selects RX5 yX5_add yX5_add, Cond.code yX5_add cX5_add 2 none, Cond.fieldLink RX5 15 "ScoreboardCore$RegisterList" "size" "I", Cond.fieldLink RX5 11 "ScoreboardCore$RegisterList" "numbers" "[I", Cond.methodLink RX1 68 yX1_listShiftNeeds, Cond.instanceMethod yX1_listShiftNeeds, Cond.selects RX1 yX1_listShiftNeeds yX1_listShiftNeeds]
def wsX1_listNeeds_r2 : List Cond := [Cond.code yX1_listShiftNeeds cX1_listShiftNeeds 1 none, Cond.fieldLink RX1 28 "ScoreboardCore$Instruction" "i" "I", Cond.methodLink RX1 81 yX5_addB, Cond.instanceMethod yX5_addB, Cond.selects RX5 yX5_addB yX5_addB, Cond.code yX5_addB cX5_addB 2 none, Cond.methodLink RX1 75 yX1_listAddressNeeds, Cond.instanceMethod yX1_listAddressNeeds, Cond.selects RX1 yX1_listAddressNeeds yX1_listAddressNeeds, Cond.code yX1_listAddressNeeds cX1_listAddressNeeds 1 none, Cond.methodLink RX1 84 yX5_addA, Cond.instanceMethod yX5_addA, Cond.selects RX5 yX5_addA yX5_addA, Cond.code yX5_addA cX5_addA 2 none, Cond.methodLink RX1 61 yX1_parcels, Cond.instanceMethod yX1_parcels, Cond.selects RX1 yX1_parcels yX1_parcels, Cond.code yX1_parcels cX1_parcels 2 (some .int), Cond.methodLink RX1 57 yX1_isJump, Cond.instanceMethod yX1_isJump, Cond.selects RX1 yX1_isJump yX1_isJump, Cond.code yX1_isJump cX1_isJump 1 (some .boolean), Cond.methodLink RX1 87 yX1_stores, Cond.instanceMethod yX1_stores]
def wsX1_listNeeds_r3 : List Cond := [Cond.selects RX1 yX1_stores yX1_stores, Cond.code yX1_stores cX1_stores 1 (some .boolean), Cond.methodLink RX1 78 yX1_listJumpNeeds, Cond.instanceMethod yX1_listJumpNeeds, Cond.selects RX1 yX1_listJumpNeeds yX1_listJumpNeeds, Cond.code yX1_listJumpNeeds cX1_listJumpNeeds 1 none]
def wsX1_listNeeds : List Cond := .code yX1_listNeeds cX1_listNeeds 1 none :: ((wsX1_listNeeds_r1 ++ (wsX1_listNeeds_r2 ++ wsX1_listNeeds_r3)) ++ wsX10 ++ wsX50)
def wsX1_listResults_r1 : List Cond := [Cond.fieldLink RX1 45 "ScoreboardCore$Instruction" "unit" "I", Cond.fieldLink RX1 25 "ScoreboardCore$Instruction" "op" "I", Cond.fieldLink RX1 18 "ScoreboardCore$Instruction" "results" "LScoreboardCore$RegisterList;", Cond.fieldLink RX1 28 "ScoreboardCore$Instruction" "i" "I", Cond.methodLink RX1 84 yX5_addA, Cond.instanceMethod yX5_addA, Cond.selects RX5 yX5_addA yX5_addA, Cond.initialized RX5, Cond.code yX5_addA cX5_addA 2 none, Cond.methodLink RX5 19 yX5_add, Cond.instanceMethod yX5_add, Cond.selects RX5 yX5_add yX5_add, Cond.code yX5_add cX5_add 2 none, Cond.fieldLink RX5 15 "ScoreboardCore$RegisterList" "size" "I", Cond.fieldLink RX5 11 "ScoreboardCore$RegisterList" "numbers" "[I", Cond.methodLink RX1 90 yX1_loads, Cond.instanceMethod yX1_loads, Cond.selects RX1 yX1_loads yX1_loads, Cond.initialized RX1, Cond.code yX1_loads cX1_loads 1 (some .boolean), Cond.methodLink RX1 71 yX5_addX, Cond.instanceMethod yX5_addX, Cond.selects RX5 yX5_addX yX5_addX, Cond.code yX5_addX cX5_addX 2 none]
def wsX1_listResults_r2 : List Cond := [Cond.methodLink RX1 81 yX5_addB, Cond.instanceMethod yX5_addB, Cond.selects RX5 yX5_addB yX5_addB, Cond.code yX5_addB cX5_addB 2 none]
def wsX1_listResults : List Cond := .code yX1_listResults cX1_listResults 1 none :: ((wsX1_listResults_r1 ++ wsX1_listResults_r2) ++ wsX10 ++ wsX50)
def wsX1_decode_r1 : List Cond := [Cond.fieldLink RX1 21 "ScoreboardCore$Instruction" "parcelsLeft" "I", Cond.fieldLink RX1 25 "ScoreboardCore$Instruction" "op" "I", Cond.fieldLink RX1 28 "ScoreboardCore$Instruction" "i" "I", Cond.fieldLink RX1 31 "ScoreboardCore$Instruction" "j" "I", Cond.fieldLink RX1 34 "ScoreboardCore$Instruction" "k" "I", Cond.constant RX1 37 (262143), Cond.fieldLink RX1 38 "ScoreboardCore$Instruction" "constant" "I", Cond.fieldLink RX1 45 "ScoreboardCore$Instruction" "unit" "I", Cond.fieldLink RX1 14 "ScoreboardCore$Instruction" "needs" "LScoreboardCore$RegisterList;", Cond.fieldLink RX1 18 "ScoreboardCore$Instruction" "results" "LScoreboardCore$RegisterList;", Cond.methodLink RX1 41 yX1_unitOf, Cond.static yX1_unitOf, Cond.initialized RX1, Cond.code yX1_unitOf cX1_unitOf 1 (some .int), Cond.methodLink RX1 48 yX5_clear, Cond.instanceMethod yX5_clear, Cond.selects RX5 yX5_clear yX5_clear, Cond.initialized RX5, Cond.code yX5_clear cX5_clear 1 none, Cond.fieldLink RX5 15 "ScoreboardCore$RegisterList" "size" "I", Cond.methodLink RX1 51 yX1_listNeeds, Cond.instanceMethod yX1_listNeeds, Cond.selects RX1 yX1_listNeeds yX1_listNeeds, Cond.code yX1_listNeeds cX1_listNeeds 1 none]
def wsX1_decode_r2 : List Cond := [Cond.methodLink RX1 65 yX1_listLogicNeeds, Cond.instanceMethod yX1_listLogicNeeds, Cond.selects RX1 yX1_listLogicNeeds yX1_listLogicNeeds, Cond.code yX1_listLogicNeeds cX1_listLogicNeeds 1 none, Cond.methodLink RX1 71 yX5_addX, Cond.instanceMethod yX5_addX, Cond.selects RX5 yX5_addX yX5_addX, Cond.code yX5_addX cX5_addX 2 none, Cond.methodLink RX5 19 yX5_add, Cond.instanceMethod yX5_add, Cond.selects RX5 yX5_add yX5_add, Cond.code yX5_add cX5_add 2 none, Cond.fieldLink RX5 11 "ScoreboardCore$RegisterList" "numbers" "[I", Cond.methodLink RX1 68 yX1_listShiftNeeds, Cond.instanceMethod yX1_listShiftNeeds, Cond.selects RX1 yX1_listShiftNeeds yX1_listShiftNeeds, Cond.code yX1_listShiftNeeds cX1_listShiftNeeds 1 none, Cond.methodLink RX1 81 yX5_addB, Cond.instanceMethod yX5_addB, Cond.selects RX5 yX5_addB yX5_addB, Cond.code yX5_addB cX5_addB 2 none, Cond.methodLink RX1 75 yX1_listAddressNeeds, Cond.instanceMethod yX1_listAddressNeeds, Cond.selects RX1 yX1_listAddressNeeds yX1_listAddressNeeds]
def wsX1_decode_r3 : List Cond := [Cond.code yX1_listAddressNeeds cX1_listAddressNeeds 1 none, Cond.methodLink RX1 84 yX5_addA, Cond.instanceMethod yX5_addA, Cond.selects RX5 yX5_addA yX5_addA, Cond.code yX5_addA cX5_addA 2 none, Cond.methodLink RX1 61 yX1_parcels, Cond.instanceMethod yX1_parcels, Cond.selects RX1 yX1_parcels yX1_parcels, Cond.code yX1_parcels cX1_parcels 2 (some .int), Cond.methodLink RX1 57 yX1_isJump, Cond.instanceMethod yX1_isJump, Cond.selects RX1 yX1_isJump yX1_isJump, Cond.code yX1_isJump cX1_isJump 1 (some .boolean), Cond.methodLink RX1 87 yX1_stores, Cond.instanceMethod yX1_stores, Cond.selects RX1 yX1_stores yX1_stores, Cond.code yX1_stores cX1_stores 1 (some .boolean), Cond.methodLink RX1 78 yX1_listJumpNeeds, Cond.instanceMethod yX1_listJumpNeeds, Cond.selects RX1 yX1_listJumpNeeds yX1_listJumpNeeds, Cond.code yX1_listJumpNeeds cX1_listJumpNeeds 1 none, Cond.methodLink RX1 54 yX1_listResults, Cond.instanceMethod yX1_listResults, Cond.selects RX1 yX1_listResults yX1_listResults]
def wsX1_decode_r4 : List Cond := [Cond.code yX1_listResults cX1_listResults 1 none, Cond.methodLink RX1 90 yX1_loads, Cond.instanceMethod yX1_loads, Cond.selects RX1 yX1_loads yX1_loads, Cond.code yX1_loads cX1_loads 1 (some .boolean)]
def wsX1_decode : List Cond := .code yX1_decode cX1_decode 5 none :: ((wsX1_decode_r1 ++ (wsX1_decode_r2 ++ (wsX1_decode_r3 ++ wsX1_decode_r4))) ++ wsX10 ++ wsX50)
def wsX1_j : List Cond := .code yX1_j cX1_j 1 (some .int) :: ([.fieldLink RX1 31 "ScoreboardCore$Instruction" "j" "I"] ++ wsX10)
def wsX1_k : List Cond := .code yX1_k cX1_k 1 (some .int) :: ([.fieldLink RX1 34 "ScoreboardCore$Instruction" "k" "I"] ++ wsX10)
def wsX1_jk : List Cond := .code yX1_jk cX1_jk 1 (some .int) :: ([.fieldLink RX1 31 "ScoreboardCore$Instruction" "j" "I", .fieldLink RX1 34 "ScoreboardCore$Instruction" "k" "I"] ++ wsX10)
def wsX1_constant : List Cond := .code yX1_constant cX1_constant 1 (some .int) :: ([.fieldLink RX1 38 "ScoreboardCore$Instruction" "constant" "I"] ++ wsX10)
def wsX1_stopCode : List Cond := .code yX1_stopCode cX1_stopCode 3 (some .int) :: ([.fieldLink RX1 25 "ScoreboardCore$Instruction" "op" "I", .fieldLink RX1 45 "ScoreboardCore$Instruction" "unit" "I", .fieldLink RX1 28 "ScoreboardCore$Instruction" "i" "I", .fieldLink RX1 21 "ScoreboardCore$Instruction" "parcelsLeft" "I", .methodLink RX1 57 yX1_isJump, .instanceMethod yX1_isJump, .selects RX1 yX1_isJump yX1_isJump, .initialized RX1, .code yX1_isJump cX1_isJump 1 (some .boolean), .methodLink RX1 61 yX1_parcels, .instanceMethod yX1_parcels, .selects RX1 yX1_parcels yX1_parcels, .code yX1_parcels cX1_parcels 2 (some .int)] ++ wsX10)
def wsX6_x : List Cond := .code yX6_x cX6_x 2 (some .long) :: ([.fieldLink RX6 9 "ScoreboardCore$Registers" "values" "[J"] ++ wsX60)
def wsX4_isZero : List Cond := .code yX4_isZero cX4_isZero 2 (some .boolean) :: ([.constantLong RX4 17 (1152921504606846975)])
def wsX4_isNegative : List Cond := .code yX4_isNegative cX4_isNegative 2 (some .boolean) :: ([])
def wsX2_wordHolds : List Cond := .code yX2_wordHolds cX2_wordHolds 3 (some .boolean) :: ([.methodLink RX2 53 yX4_isZero, .static yX4_isZero, .initialized RX4, .code yX4_isZero cX4_isZero 2 (some .boolean), .constantLong RX4 17 (1152921504606846975), .methodLink RX2 57 yX4_isNegative, .static yX4_isNegative, .code yX4_isNegative cX4_isNegative 2 (some .boolean)])
def wsX6_b : List Cond := .code yX6_b cX6_b 2 (some .long) :: ([.fieldLink RX6 9 "ScoreboardCore$Registers" "values" "[J"] ++ wsX60)
def wsX4_isShortNegative : List Cond := .code yX4_isShortNegative cX4_isShortNegative 2 (some .boolean) :: ([.constantLong RX4 15 (131071)])
def wsX4_plain : List Cond := .code yX4_plain cX4_plain 2 (some .long) :: ([.constantLong RX4 25 (262143), .methodLink RX4 19 yX4_isShortNegative, .static yX4_isShortNegative, .initialized RX4, .code yX4_isShortNegative cX4_isShortNegative 2 (some .boolean), .constantLong RX4 15 (131071)])
def wsJ13_compare_74951 : List Cond := .code yJ13_compare_74951 cJ13_compare_74951 4 (some .int) :: ([])
def wsX2_shortsHold : List Cond := .code yX2_shortsHold cX2_shortsHold 6 (some .boolean) :: ([.methodLink RX2 60 yX4_plain, .static yX4_plain, .initialized RX4, .code yX4_plain cX4_plain 2 (some .long), .constantLong RX4 25 (262143), .methodLink RX4 19 yX4_isShortNegative, .static yX4_isShortNegative, .code yX4_isShortNegative cX4_isShortNegative 2 (some .boolean), .constantLong RX4 15 (131071), .methodLink RX2 64 yJ13_compare_74951, .static yJ13_compare_74951, .initialized RJ13, .code yJ13_compare_74951 cJ13_compare_74951 4 (some .int)])
def wsX2_goesElsewhere_r1 : List Cond := [Cond.methodLink RX2 9 yX1_op, Cond.instanceMethod yX1_op, Cond.selects RX1 yX1_op yX1_op, Cond.initialized RX1, Cond.code yX1_op cX1_op 1 (some .int), Cond.fieldLink RX1 25 "ScoreboardCore$Instruction" "op" "I", Cond.methodLink RX2 15 yX1_i, Cond.instanceMethod yX1_i, Cond.selects RX1 yX1_i yX1_i, Cond.code yX1_i cX1_i 1 (some .int), Cond.fieldLink RX1 28 "ScoreboardCore$Instruction" "i" "I", Cond.methodLink RX2 18 yX1_j, Cond.instanceMethod yX1_j, Cond.selects RX1 yX1_j yX1_j, Cond.code yX1_j cX1_j 1 (some .int), Cond.fieldLink RX1 31 "ScoreboardCore$Instruction" "j" "I", Cond.methodLink RX2 21 yX6_x, Cond.instanceMethod yX6_x, Cond.selects RX6 yX6_x yX6_x, Cond.initialized RX6, Cond.code yX6_x cX6_x 2 (some .long), Cond.fieldLink RX6 9 "ScoreboardCore$Registers" "values" "[J", Cond.methodLink RX2 27 yX2_wordHolds, Cond.static yX2_wordHolds]
def wsX2_goesElsewhere_r2 : List Cond := [Cond.initialized RX2, Cond.code yX2_wordHolds cX2_wordHolds 3 (some .boolean), Cond.methodLink RX2 53 yX4_isZero, Cond.static yX4_isZero, Cond.initialized RX4, Cond.code yX4_isZero cX4_isZero 2 (some .boolean), Cond.constantLong RX4 17 (1152921504606846975), Cond.methodLink RX2 57 yX4_isNegative, Cond.static yX4_isNegative, Cond.code yX4_isNegative cX4_isNegative 2 (some .boolean), Cond.methodLink RX2 33 yX6_b, Cond.instanceMethod yX6_b, Cond.selects RX6 yX6_b yX6_b, Cond.code yX6_b cX6_b 2 (some .long), Cond.methodLink RX2 36 yX2_shortsHold, Cond.static yX2_shortsHold, Cond.code yX2_shortsHold cX2_shortsHold 6 (some .boolean), Cond.methodLink RX2 60 yX4_plain, Cond.static yX4_plain, Cond.code yX4_plain cX4_plain 2 (some .long), Cond.constantLong RX4 25 (262143), Cond.methodLink RX4 19 yX4_isShortNegative, Cond.static yX4_isShortNegative, Cond.code yX4_isShortNegative cX4_isShortNegative 2 (some .boolean)]
def wsX2_goesElsewhere_r3 : List Cond := [Cond.constantLong RX4 15 (131071), Cond.methodLink RX2 64 yJ13_compare_74951, Cond.static yJ13_compare_74951, Cond.initialized RJ13, Cond.code yJ13_compare_74951 cJ13_compare_74951 4 (some .int)]
def wsX2_goesElsewhere : List Cond := .code yX2_goesElsewhere cX2_goesElsewhere 2 (some .boolean) :: ((wsX2_goesElsewhere_r1 ++ (wsX2_goesElsewhere_r2 ++ wsX2_goesElsewhere_r3)) ++ wsX10 ++ wsX60)
def wsX4_sum : List Cond := .code yX4_sum cX4_sum 9 (some .long) :: ([])
def wsX2_target_r1 : List Cond := [Cond.constantLong RX2 43 (262143), Cond.methodLink RX2 9 yX1_op, Cond.instanceMethod yX1_op, Cond.selects RX1 yX1_op yX1_op, Cond.initialized RX1, Cond.code yX1_op cX1_op 1 (some .int), Cond.fieldLink RX1 25 "ScoreboardCore$Instruction" "op" "I", Cond.methodLink RX2 40 yX1_constant, Cond.instanceMethod yX1_constant, Cond.selects RX1 yX1_constant yX1_constant, Cond.code yX1_constant cX1_constant 1 (some .int), Cond.fieldLink RX1 38 "ScoreboardCore$Instruction" "constant" "I", Cond.methodLink RX2 15 yX1_i, Cond.instanceMethod yX1_i, Cond.selects RX1 yX1_i yX1_i, Cond.code yX1_i cX1_i 1 (some .int), Cond.fieldLink RX1 28 "ScoreboardCore$Instruction" "i" "I", Cond.methodLink RX2 33 yX6_b, Cond.instanceMethod yX6_b, Cond.selects RX6 yX6_b yX6_b, Cond.initialized RX6, Cond.code yX6_b cX6_b 2 (some .long), Cond.fieldLink RX6 9 "ScoreboardCore$Registers" "values" "[J", Cond.methodLink RX2 45 yX4_sum]
def wsX2_target_r2 : List Cond := [Cond.static yX4_sum, Cond.initialized RX4, Cond.code yX4_sum cX4_sum 9 (some .long)]
def wsX2_target : List Cond := .code yX2_target cX2_target 2 (some .int) :: ((wsX2_target_r1 ++ wsX2_target_r2) ++ wsX10 ++ wsX60)
def wsX2_wayBack : List Cond := .code yX2_wayBack cX2_wayBack 1 (some .long) :: ([.constantLong RX2 51 (72057594037927936)])
def wsX3_init : List Cond := .code yX3_init cX3_init 1 none :: ([.methodLink RX3 3 objectInit, .instanceMethod objectInit, .code objectInit ⟨#[0xb1]⟩ 1 none, .arrayClass .long, .fieldLink RX3 9 "ScoreboardCore$Memory" "words" "[J", .fieldLink RX3 15 "ScoreboardCore$Memory" "program" "[J"] ++ wsX30)
def wsX3_holds : List Cond := .code yX3_holds cX3_holds 1 (some .boolean) :: ([])
def wsX3_load : List Cond := .code yX3_load cX3_load 2 (some .long) :: ([.fieldLink RX3 9 "ScoreboardCore$Memory" "words" "[J", .methodLink RX3 18 yX3_holds, .static yX3_holds, .initialized RX3, .code yX3_holds cX3_holds 1 (some .boolean)] ++ wsX30)
def wsX3_store : List Cond := .code yX3_store cX3_store 4 none :: ([.fieldLink RX3 9 "ScoreboardCore$Memory" "words" "[J", .constantLong RX3 22 (1152921504606846975), .methodLink RX3 18 yX3_holds, .static yX3_holds, .initialized RX3, .code yX3_holds cX3_holds 1 (some .boolean)] ++ wsX30)
def wsX3_keepProgram : List Cond := .code yX3_keepProgram cX3_keepProgram 1 none :: ([.fieldLink RX3 9 "ScoreboardCore$Memory" "words" "[J", .fieldLink RX3 15 "ScoreboardCore$Memory" "program" "[J", .methodLink RX3 24 arraycopyName, .native arraycopyName, .static arraycopyName, .initialized "java/lang/System"] ++ wsX30)
def wsX3_programWord : List Cond := .code yX3_programWord cX3_programWord 2 (some .long) :: ([.fieldLink RX3 15 "ScoreboardCore$Memory" "program" "[J", .methodLink RX3 18 yX3_holds, .static yX3_holds, .initialized RX3, .code yX3_holds cX3_holds 1 (some .boolean)] ++ wsX30)
def wsX3_storeInProgram : List Cond := .code yX3_storeInProgram cX3_storeInProgram 4 none :: ([.fieldLink RX3 15 "ScoreboardCore$Memory" "program" "[J", .constantLong RX3 22 (1152921504606846975), .methodLink RX3 30 yX3_store, .instanceMethod yX3_store, .selects RX3 yX3_store yX3_store, .initialized RX3, .code yX3_store cX3_store 4 none, .fieldLink RX3 9 "ScoreboardCore$Memory" "words" "[J", .methodLink RX3 18 yX3_holds, .static yX3_holds, .code yX3_holds cX3_holds 1 (some .boolean)] ++ wsX30)
def wsX4_difference : List Cond := .code yX4_difference cX4_difference 6 (some .long) :: ([.methodLink RX4 9 yX4_sum, .static yX4_sum, .initialized RX4, .code yX4_sum cX4_sum 9 (some .long)])
def wsX4_extended : List Cond := .code yX4_extended cX4_extended 2 (some .long) :: ([.constantLong RX4 23 (1152921504606584832), .methodLink RX4 19 yX4_isShortNegative, .static yX4_isShortNegative, .initialized RX4, .code yX4_isShortNegative cX4_isShortNegative 2 (some .boolean), .constantLong RX4 15 (131071)])
def wsX4_turnedRoundLeft : List Cond := .code yX4_turnedRoundLeft cX4_turnedRoundLeft 4 (some .long) :: ([.constantLong RX4 17 (1152921504606846975)])
def wsX4_shiftedRight : List Cond := .code yX4_shiftedRight cX4_shiftedRight 5 (some .long) :: ([.constantLong RX4 30 (-1152921504606846976), .methodLink RX4 32 Lib.Math.min.name, .static Lib.Math.min.name, .initialized "java/lang/Math", .code Lib.Math.min.name Lib.Math.min.code 2 (some .int), .constantLong RX4 17 (1152921504606846975), .methodLink RX4 27 yX4_isNegative, .static yX4_isNegative, .initialized RX4, .code yX4_isNegative cX4_isNegative 2 (some .boolean)])
def wsX4_highestBits : List Cond := .code yX4_highestBits cX4_highestBits 1 (some .long) :: ([.constantLong RX4 17 (1152921504606846975), .methodLink RX4 32 Lib.Math.min.name, .static Lib.Math.min.name, .initialized "java/lang/Math", .code Lib.Math.min.name Lib.Math.min.code 2 (some .int)])
def wsX6_init : List Cond := .code yX6_init cX6_init 1 none :: ([.methodLink RX6 3 objectInit, .instanceMethod objectInit, .code objectInit ⟨#[0xb1]⟩ 1 none, .arrayClass .long, .fieldLink RX6 9 "ScoreboardCore$Registers" "values" "[J"] ++ wsX60)
def wsX6_get : List Cond := .code yX6_get cX6_get 2 (some .long) :: ([.fieldLink RX6 9 "ScoreboardCore$Registers" "values" "[J"] ++ wsX60)
def wsX6_set : List Cond := .code yX6_set cX6_set 4 none :: ([.fieldLink RX6 9 "ScoreboardCore$Registers" "values" "[J", .constantLong RX6 15 (1152921504606846975), .constantLong RX6 17 (262143)] ++ wsX60)
def wsX6_a : List Cond := .code yX6_a cX6_a 2 (some .long) :: ([.fieldLink RX6 9 "ScoreboardCore$Registers" "values" "[J"] ++ wsX60)
def wsX7_logic : List Cond := .code yX7_logic cX7_logic 5 (some .long) :: ([.constantLong RX7 60 (-1)])
def wsX7_shiftBy : List Cond := .code yX7_shiftBy cX7_shiftBy 7 (some .long) :: ([.constantLong RX7 60 (-1), .methodLink RX7 84 yX4_isShortNegative, .static yX4_isShortNegative, .initialized RX4, .code yX4_isShortNegative cX4_isShortNegative 2 (some .boolean), .constantLong RX4 15 (131071), .methodLink RX7 65 yX4_turnedRoundLeft, .static yX4_turnedRoundLeft, .code yX4_turnedRoundLeft cX4_turnedRoundLeft 4 (some .long), .constantLong RX4 17 (1152921504606846975), .methodLink RX7 71 yX4_shiftedRight, .static yX4_shiftedRight, .code yX4_shiftedRight cX4_shiftedRight 5 (some .long), .constantLong RX4 30 (-1152921504606846976), .methodLink RX4 32 Lib.Math.min.name, .static Lib.Math.min.name, .initialized "java/lang/Math", .code Lib.Math.min.name Lib.Math.min.code 2 (some .int), .methodLink RX4 27 yX4_isNegative, .static yX4_isNegative, .code yX4_isNegative cX4_isNegative 2 (some .boolean)])
def wsX7_shift_r1 : List Cond := [Cond.methodLink RX7 18 yX1_op, Cond.instanceMethod yX1_op, Cond.selects RX1 yX1_op yX1_op, Cond.initialized RX1, Cond.code yX1_op cX1_op 1 (some .int), Cond.fieldLink RX1 25 "ScoreboardCore$Instruction" "op" "I", Cond.methodLink RX7 15 yX1_i, Cond.instanceMethod yX1_i, Cond.selects RX1 yX1_i yX1_i, Cond.code yX1_i cX1_i 1 (some .int), Cond.fieldLink RX1 28 "ScoreboardCore$Instruction" "i" "I", Cond.methodLink RX7 24 yX6_x, Cond.instanceMethod yX6_x, Cond.selects RX6 yX6_x yX6_x, Cond.initialized RX6, Cond.code yX6_x cX6_x 2 (some .long), Cond.fieldLink RX6 9 "ScoreboardCore$Registers" "values" "[J", Cond.methodLink RX7 62 yX1_jk, Cond.instanceMethod yX1_jk, Cond.selects RX1 yX1_jk yX1_jk, Cond.code yX1_jk cX1_jk 1 (some .int), Cond.fieldLink RX1 31 "ScoreboardCore$Instruction" "j" "I", Cond.fieldLink RX1 34 "ScoreboardCore$Instruction" "k" "I", Cond.methodLink RX7 65 yX4_turnedRoundLeft]
def wsX7_shift_r2 : List Cond := [Cond.static yX4_turnedRoundLeft, Cond.initialized RX4, Cond.code yX4_turnedRoundLeft cX4_turnedRoundLeft 4 (some .long), Cond.constantLong RX4 17 (1152921504606846975), Cond.methodLink RX7 71 yX4_shiftedRight, Cond.static yX4_shiftedRight, Cond.code yX4_shiftedRight cX4_shiftedRight 5 (some .long), Cond.constantLong RX4 30 (-1152921504606846976), Cond.methodLink RX4 32 Lib.Math.min.name, Cond.static Lib.Math.min.name, Cond.initialized "java/lang/Math", Cond.code Lib.Math.min.name Lib.Math.min.code 2 (some .int), Cond.methodLink RX4 27 yX4_isNegative, Cond.static yX4_isNegative, Cond.code yX4_isNegative cX4_isNegative 2 (some .boolean), Cond.methodLink RX7 30 yX1_k, Cond.instanceMethod yX1_k, Cond.selects RX1 yX1_k yX1_k, Cond.code yX1_k cX1_k 1 (some .int), Cond.methodLink RX7 21 yX1_j, Cond.instanceMethod yX1_j, Cond.selects RX1 yX1_j yX1_j, Cond.code yX1_j cX1_j 1 (some .int), Cond.methodLink RX7 74 yX6_b]
def wsX7_shift_r3 : List Cond := [Cond.instanceMethod yX6_b, Cond.selects RX6 yX6_b yX6_b, Cond.code yX6_b cX6_b 2 (some .long), Cond.methodLink RX7 77 yX7_shiftBy, Cond.static yX7_shiftBy, Cond.initialized RX7, Cond.code yX7_shiftBy cX7_shiftBy 7 (some .long), Cond.constantLong RX7 60 (-1), Cond.methodLink RX7 84 yX4_isShortNegative, Cond.static yX4_isShortNegative, Cond.code yX4_isShortNegative cX4_isShortNegative 2 (some .boolean), Cond.constantLong RX4 15 (131071), Cond.methodLink RX7 81 yX4_highestBits, Cond.static yX4_highestBits, Cond.code yX4_highestBits cX4_highestBits 1 (some .long)]
def wsX7_shift : List Cond := .code yX7_shift cX7_shift 2 (some .long) :: ((wsX7_shift_r1 ++ (wsX7_shift_r2 ++ wsX7_shift_r3)) ++ wsX10 ++ wsX60)
def wsX7_wordSum : List Cond := .code yX7_wordSum cX7_wordSum 5 (some .long) :: ([.constantLong RX7 88 (1152921504606846975), .methodLink RX7 90 yX4_sum, .static yX4_sum, .initialized RX4, .code yX4_sum cX4_sum 9 (some .long), .methodLink RX7 94 yX4_difference, .static yX4_difference, .code yX4_difference cX4_difference 6 (some .long), .methodLink RX4 9 yX4_sum])
def wsJ13_bitCount_95d88 : List Cond := .code yJ13_bitCount_95d88 cJ13_bitCount_95d88 2 (some .int) :: ([.constantLong RJ13 314 (6148914691236517205), .constantLong RJ13 316 (3689348814741910323), .constantLong RJ13 318 (1085102592571150095)])
def wsX7_shortSum_r1 : List Cond := [Cond.constantLong RX7 126 (262143), Cond.methodLink RX7 21 yX1_j, Cond.instanceMethod yX1_j, Cond.selects RX1 yX1_j yX1_j, Cond.initialized RX1, Cond.code yX1_j cX1_j 1 (some .int), Cond.fieldLink RX1 31 "ScoreboardCore$Instruction" "j" "I", Cond.methodLink RX7 123 yX6_a, Cond.instanceMethod yX6_a, Cond.selects RX6 yX6_a yX6_a, Cond.initialized RX6, Cond.code yX6_a cX6_a 2 (some .long), Cond.fieldLink RX6 9 "ScoreboardCore$Registers" "values" "[J", Cond.methodLink RX7 74 yX6_b, Cond.instanceMethod yX6_b, Cond.selects RX6 yX6_b yX6_b, Cond.code yX6_b cX6_b 2 (some .long), Cond.methodLink RX7 24 yX6_x, Cond.instanceMethod yX6_x, Cond.selects RX6 yX6_x yX6_x, Cond.code yX6_x cX6_x 2 (some .long), Cond.methodLink RX7 30 yX1_k, Cond.instanceMethod yX1_k, Cond.selects RX1 yX1_k yX1_k]
def wsX7_shortSum_r2 : List Cond := [Cond.code yX1_k cX1_k 1 (some .int), Cond.fieldLink RX1 34 "ScoreboardCore$Instruction" "k" "I", Cond.methodLink RX7 18 yX1_op, Cond.instanceMethod yX1_op, Cond.selects RX1 yX1_op yX1_op, Cond.code yX1_op cX1_op 1 (some .int), Cond.fieldLink RX1 25 "ScoreboardCore$Instruction" "op" "I", Cond.methodLink RX7 128 yX1_constant, Cond.instanceMethod yX1_constant, Cond.selects RX1 yX1_constant yX1_constant, Cond.code yX1_constant cX1_constant 1 (some .int), Cond.fieldLink RX1 38 "ScoreboardCore$Instruction" "constant" "I", Cond.methodLink RX7 90 yX4_sum, Cond.static yX4_sum, Cond.initialized RX4, Cond.code yX4_sum cX4_sum 9 (some .long), Cond.methodLink RX7 94 yX4_difference, Cond.static yX4_difference, Cond.code yX4_difference cX4_difference 6 (some .long), Cond.methodLink RX4 9 yX4_sum]
def wsX7_shortSum : List Cond := .code yX7_shortSum cX7_shortSum 10 (some .long) :: ((wsX7_shortSum_r1 ++ wsX7_shortSum_r2) ++ wsX10 ++ wsX60)
def wsX7_reachMemory_r1 : List Cond := [Cond.methodLink RX7 108 yX1_loads, Cond.instanceMethod yX1_loads, Cond.selects RX1 yX1_loads yX1_loads, Cond.initialized RX1, Cond.code yX1_loads cX1_loads 1 (some .boolean), Cond.fieldLink RX1 25 "ScoreboardCore$Instruction" "op" "I", Cond.fieldLink RX1 28 "ScoreboardCore$Instruction" "i" "I", Cond.methodLink RX7 15 yX1_i, Cond.instanceMethod yX1_i, Cond.selects RX1 yX1_i yX1_i, Cond.code yX1_i cX1_i 1 (some .int), Cond.methodLink RX7 112 yX3_load, Cond.instanceMethod yX3_load, Cond.selects RX3 yX3_load yX3_load, Cond.initialized RX3, Cond.code yX3_load cX3_load 2 (some .long), Cond.fieldLink RX3 9 "ScoreboardCore$Memory" "words" "[J", Cond.methodLink RX3 18 yX3_holds, Cond.static yX3_holds, Cond.code yX3_holds cX3_holds 1 (some .boolean), Cond.methodLink RX7 39 yX6_set, Cond.instanceMethod yX6_set, Cond.selects RX6 yX6_set yX6_set, Cond.initialized RX6]
def wsX7_reachMemory_r2 : List Cond := [Cond.code yX6_set cX6_set 4 none, Cond.fieldLink RX6 9 "ScoreboardCore$Registers" "values" "[J", Cond.constantLong RX6 15 (1152921504606846975), Cond.constantLong RX6 17 (262143), Cond.methodLink RX7 117 yX1_stores, Cond.instanceMethod yX1_stores, Cond.selects RX1 yX1_stores yX1_stores, Cond.code yX1_stores cX1_stores 1 (some .boolean), Cond.methodLink RX7 24 yX6_x, Cond.instanceMethod yX6_x, Cond.selects RX6 yX6_x yX6_x, Cond.code yX6_x cX6_x 2 (some .long), Cond.methodLink RX7 120 yX3_store, Cond.instanceMethod yX3_store, Cond.selects RX3 yX3_store yX3_store, Cond.code yX3_store cX3_store 4 none, Cond.constantLong RX3 22 (1152921504606846975)]
def wsX7_reachMemory : List Cond := .code yX7_reachMemory cX7_reachMemory 4 none :: ((wsX7_reachMemory_r1 ++ wsX7_reachMemory_r2) ++ wsX10 ++ wsX30 ++ wsX60)
def wsX7_applyAddress_r1 : List Cond := [Cond.methodLink RX7 97 yX7_shortSum, Cond.static yX7_shortSum, Cond.initialized RX7, Cond.code yX7_shortSum cX7_shortSum 10 (some .long), Cond.constantLong RX7 126 (262143), Cond.methodLink RX7 21 yX1_j, Cond.instanceMethod yX1_j, Cond.selects RX1 yX1_j yX1_j, Cond.initialized RX1, Cond.code yX1_j cX1_j 1 (some .int), Cond.fieldLink RX1 31 "ScoreboardCore$Instruction" "j" "I", Cond.methodLink RX7 123 yX6_a, Cond.instanceMethod yX6_a, Cond.selects RX6 yX6_a yX6_a, Cond.initialized RX6, Cond.code yX6_a cX6_a 2 (some .long), Cond.fieldLink RX6 9 "ScoreboardCore$Registers" "values" "[J", Cond.methodLink RX7 74 yX6_b, Cond.instanceMethod yX6_b, Cond.selects RX6 yX6_b yX6_b, Cond.code yX6_b cX6_b 2 (some .long), Cond.methodLink RX7 24 yX6_x, Cond.instanceMethod yX6_x, Cond.selects RX6 yX6_x yX6_x]
def wsX7_applyAddress_r2 : List Cond := [Cond.code yX6_x cX6_x 2 (some .long), Cond.methodLink RX7 30 yX1_k, Cond.instanceMethod yX1_k, Cond.selects RX1 yX1_k yX1_k, Cond.code yX1_k cX1_k 1 (some .int), Cond.fieldLink RX1 34 "ScoreboardCore$Instruction" "k" "I", Cond.methodLink RX7 18 yX1_op, Cond.instanceMethod yX1_op, Cond.selects RX1 yX1_op yX1_op, Cond.code yX1_op cX1_op 1 (some .int), Cond.fieldLink RX1 25 "ScoreboardCore$Instruction" "op" "I", Cond.methodLink RX7 128 yX1_constant, Cond.instanceMethod yX1_constant, Cond.selects RX1 yX1_constant yX1_constant, Cond.code yX1_constant cX1_constant 1 (some .int), Cond.fieldLink RX1 38 "ScoreboardCore$Instruction" "constant" "I", Cond.methodLink RX7 90 yX4_sum, Cond.static yX4_sum, Cond.initialized RX4, Cond.code yX4_sum cX4_sum 9 (some .long), Cond.methodLink RX7 94 yX4_difference, Cond.static yX4_difference, Cond.code yX4_difference cX4_difference 6 (some .long), Cond.methodLink RX4 9 yX4_sum]
def wsX7_applyAddress_r3 : List Cond := [Cond.methodLink RX7 15 yX1_i, Cond.instanceMethod yX1_i, Cond.selects RX1 yX1_i yX1_i, Cond.code yX1_i cX1_i 1 (some .int), Cond.fieldLink RX1 28 "ScoreboardCore$Instruction" "i" "I", Cond.methodLink RX7 39 yX6_set, Cond.instanceMethod yX6_set, Cond.selects RX6 yX6_set yX6_set, Cond.code yX6_set cX6_set 4 none, Cond.constantLong RX6 15 (1152921504606846975), Cond.constantLong RX6 17 (262143), Cond.methodLink RX7 100 yX7_reachMemory, Cond.static yX7_reachMemory, Cond.code yX7_reachMemory cX7_reachMemory 4 none, Cond.methodLink RX7 108 yX1_loads, Cond.instanceMethod yX1_loads, Cond.selects RX1 yX1_loads yX1_loads, Cond.code yX1_loads cX1_loads 1 (some .boolean), Cond.methodLink RX7 112 yX3_load, Cond.instanceMethod yX3_load, Cond.selects RX3 yX3_load yX3_load, Cond.initialized RX3, Cond.code yX3_load cX3_load 2 (some .long), Cond.fieldLink RX3 9 "ScoreboardCore$Memory" "words" "[J"]
def wsX7_applyAddress_r4 : List Cond := [Cond.methodLink RX3 18 yX3_holds, Cond.static yX3_holds, Cond.code yX3_holds cX3_holds 1 (some .boolean), Cond.methodLink RX7 117 yX1_stores, Cond.instanceMethod yX1_stores, Cond.selects RX1 yX1_stores yX1_stores, Cond.code yX1_stores cX1_stores 1 (some .boolean), Cond.methodLink RX7 120 yX3_store, Cond.instanceMethod yX3_store, Cond.selects RX3 yX3_store yX3_store, Cond.code yX3_store cX3_store 4 none, Cond.constantLong RX3 22 (1152921504606846975), Cond.methodLink RX7 104 yX4_extended, Cond.static yX4_extended, Cond.code yX4_extended cX4_extended 2 (some .long), Cond.constantLong RX4 23 (1152921504606584832), Cond.methodLink RX4 19 yX4_isShortNegative, Cond.static yX4_isShortNegative, Cond.code yX4_isShortNegative cX4_isShortNegative 2 (some .boolean), Cond.constantLong RX4 15 (131071)]
def wsX7_applyAddress : List Cond := .code yX7_applyAddress cX7_applyAddress 6 none :: ((wsX7_applyAddress_r1 ++ (wsX7_applyAddress_r2 ++ (wsX7_applyAddress_r3 ++ wsX7_applyAddress_r4))) ++ wsX10 ++ wsX60 ++ wsX30)
def wsX7_apply_r1 : List Cond := [Cond.methodLink RX7 9 yX1_unit, Cond.instanceMethod yX1_unit, Cond.selects RX1 yX1_unit yX1_unit, Cond.initialized RX1, Cond.code yX1_unit cX1_unit 1 (some .int), Cond.fieldLink RX1 45 "ScoreboardCore$Instruction" "unit" "I", Cond.methodLink RX7 15 yX1_i, Cond.instanceMethod yX1_i, Cond.selects RX1 yX1_i yX1_i, Cond.code yX1_i cX1_i 1 (some .int), Cond.fieldLink RX1 28 "ScoreboardCore$Instruction" "i" "I", Cond.methodLink RX7 18 yX1_op, Cond.instanceMethod yX1_op, Cond.selects RX1 yX1_op yX1_op, Cond.code yX1_op cX1_op 1 (some .int), Cond.fieldLink RX1 25 "ScoreboardCore$Instruction" "op" "I", Cond.methodLink RX7 21 yX1_j, Cond.instanceMethod yX1_j, Cond.selects RX1 yX1_j yX1_j, Cond.code yX1_j cX1_j 1 (some .int), Cond.fieldLink RX1 31 "ScoreboardCore$Instruction" "j" "I", Cond.methodLink RX7 24 yX6_x, Cond.instanceMethod yX6_x, Cond.selects RX6 yX6_x yX6_x]
def wsX7_apply_r2 : List Cond := [Cond.initialized RX6, Cond.code yX6_x cX6_x 2 (some .long), Cond.fieldLink RX6 9 "ScoreboardCore$Registers" "values" "[J", Cond.methodLink RX7 30 yX1_k, Cond.instanceMethod yX1_k, Cond.selects RX1 yX1_k yX1_k, Cond.code yX1_k cX1_k 1 (some .int), Cond.fieldLink RX1 34 "ScoreboardCore$Instruction" "k" "I", Cond.methodLink RX7 33 yX7_logic, Cond.static yX7_logic, Cond.initialized RX7, Cond.code yX7_logic cX7_logic 5 (some .long), Cond.constantLong RX7 60 (-1), Cond.methodLink RX7 39 yX6_set, Cond.instanceMethod yX6_set, Cond.selects RX6 yX6_set yX6_set, Cond.code yX6_set cX6_set 4 none, Cond.constantLong RX6 15 (1152921504606846975), Cond.constantLong RX6 17 (262143), Cond.methodLink RX7 43 yX7_shift, Cond.static yX7_shift, Cond.code yX7_shift cX7_shift 2 (some .long), Cond.methodLink RX7 62 yX1_jk, Cond.instanceMethod yX1_jk]
def wsX7_apply_r3 : List Cond := [Cond.selects RX1 yX1_jk yX1_jk, Cond.code yX1_jk cX1_jk 1 (some .int), Cond.methodLink RX7 65 yX4_turnedRoundLeft, Cond.static yX4_turnedRoundLeft, Cond.initialized RX4, Cond.code yX4_turnedRoundLeft cX4_turnedRoundLeft 4 (some .long), Cond.constantLong RX4 17 (1152921504606846975), Cond.methodLink RX7 71 yX4_shiftedRight, Cond.static yX4_shiftedRight, Cond.code yX4_shiftedRight cX4_shiftedRight 5 (some .long), Cond.constantLong RX4 30 (-1152921504606846976), Cond.methodLink RX4 32 Lib.Math.min.name, Cond.static Lib.Math.min.name, Cond.initialized "java/lang/Math", Cond.code Lib.Math.min.name Lib.Math.min.code 2 (some .int), Cond.methodLink RX4 27 yX4_isNegative, Cond.static yX4_isNegative, Cond.code yX4_isNegative cX4_isNegative 2 (some .boolean), Cond.methodLink RX7 74 yX6_b, Cond.instanceMethod yX6_b, Cond.selects RX6 yX6_b yX6_b, Cond.code yX6_b cX6_b 2 (some .long), Cond.methodLink RX7 77 yX7_shiftBy, Cond.static yX7_shiftBy]
def wsX7_apply_r4 : List Cond := [Cond.code yX7_shiftBy cX7_shiftBy 7 (some .long), Cond.methodLink RX7 84 yX4_isShortNegative, Cond.static yX4_isShortNegative, Cond.code yX4_isShortNegative cX4_isShortNegative 2 (some .boolean), Cond.constantLong RX4 15 (131071), Cond.methodLink RX7 81 yX4_highestBits, Cond.static yX4_highestBits, Cond.code yX4_highestBits cX4_highestBits 1 (some .long), Cond.methodLink RX7 47 yX7_wordSum, Cond.static yX7_wordSum, Cond.code yX7_wordSum cX7_wordSum 5 (some .long), Cond.constantLong RX7 88 (1152921504606846975), Cond.methodLink RX7 90 yX4_sum, Cond.static yX4_sum, Cond.code yX4_sum cX4_sum 9 (some .long), Cond.methodLink RX7 94 yX4_difference, Cond.static yX4_difference, Cond.code yX4_difference cX4_difference 6 (some .long), Cond.methodLink RX4 9 yX4_sum, Cond.methodLink RX7 50 yJ13_bitCount_95d88, Cond.static yJ13_bitCount_95d88, Cond.initialized RJ13, Cond.code yJ13_bitCount_95d88 cJ13_bitCount_95d88 2 (some .int), Cond.constantLong RJ13 314 (6148914691236517205)]
def wsX7_apply_r5 : List Cond := [Cond.constantLong RJ13 316 (3689348814741910323), Cond.constantLong RJ13 318 (1085102592571150095), Cond.methodLink RX7 56 yX7_applyAddress, Cond.static yX7_applyAddress, Cond.code yX7_applyAddress cX7_applyAddress 6 none, Cond.methodLink RX7 97 yX7_shortSum, Cond.static yX7_shortSum, Cond.code yX7_shortSum cX7_shortSum 10 (some .long), Cond.constantLong RX7 126 (262143), Cond.methodLink RX7 123 yX6_a, Cond.instanceMethod yX6_a, Cond.selects RX6 yX6_a yX6_a, Cond.code yX6_a cX6_a 2 (some .long), Cond.methodLink RX7 128 yX1_constant, Cond.instanceMethod yX1_constant, Cond.selects RX1 yX1_constant yX1_constant, Cond.code yX1_constant cX1_constant 1 (some .int), Cond.fieldLink RX1 38 "ScoreboardCore$Instruction" "constant" "I", Cond.methodLink RX7 100 yX7_reachMemory, Cond.static yX7_reachMemory, Cond.code yX7_reachMemory cX7_reachMemory 4 none, Cond.methodLink RX7 108 yX1_loads, Cond.instanceMethod yX1_loads, Cond.selects RX1 yX1_loads yX1_loads]
def wsX7_apply_r6 : List Cond := [Cond.code yX1_loads cX1_loads 1 (some .boolean), Cond.methodLink RX7 112 yX3_load, Cond.instanceMethod yX3_load, Cond.selects RX3 yX3_load yX3_load, Cond.initialized RX3, Cond.code yX3_load cX3_load 2 (some .long), Cond.fieldLink RX3 9 "ScoreboardCore$Memory" "words" "[J", Cond.methodLink RX3 18 yX3_holds, Cond.static yX3_holds, Cond.code yX3_holds cX3_holds 1 (some .boolean), Cond.methodLink RX7 117 yX1_stores, Cond.instanceMethod yX1_stores, Cond.selects RX1 yX1_stores yX1_stores, Cond.code yX1_stores cX1_stores 1 (some .boolean), Cond.methodLink RX7 120 yX3_store, Cond.instanceMethod yX3_store, Cond.selects RX3 yX3_store yX3_store, Cond.code yX3_store cX3_store 4 none, Cond.constantLong RX3 22 (1152921504606846975), Cond.methodLink RX7 104 yX4_extended, Cond.static yX4_extended, Cond.code yX4_extended cX4_extended 2 (some .long), Cond.constantLong RX4 23 (1152921504606584832), Cond.methodLink RX4 19 yX4_isShortNegative]
def wsX7_apply : List Cond := .code yX7_apply cX7_apply 3 none :: ((wsX7_apply_r1 ++ (wsX7_apply_r2 ++ (wsX7_apply_r3 ++ (wsX7_apply_r4 ++ (wsX7_apply_r5 ++ wsX7_apply_r6))))) ++ wsX10 ++ wsX60 ++ wsX30)
def wsX8_init_r1 : List Cond := [Cond.methodLink RX8 1 objectInit, Cond.instanceMethod objectInit, Cond.code objectInit ⟨#[0xb1]⟩ 1 none, Cond.classLink RX8 7 RX3, Cond.instantiable RX3 2, Cond.initialized RX3, Cond.fieldLink RX8 10 "ScoreboardCore" "memory" "LScoreboardCore$Memory;", Cond.classLink RX8 16 RX6, Cond.instantiable RX6 1, Cond.initialized RX6, Cond.fieldLink RX8 19 "ScoreboardCore" "registers" "LScoreboardCore$Registers;", Cond.classLink RX8 23 RX0, Cond.instantiable RX0 9, Cond.initialized RX0, Cond.fieldLink RX8 26 "ScoreboardCore" "board" "LScoreboardCore$Board;", Cond.classLink RX8 30 RX1, Cond.instantiable RX1 9, Cond.initialized RX1, Cond.fieldLink RX8 33 "ScoreboardCore" "instruction" "LScoreboardCore$Instruction;", Cond.fieldLink RX8 37 "ScoreboardCore" "word" "I", Cond.fieldLink RX8 41 "ScoreboardCore" "parcel" "I", Cond.fieldLink RX8 44 "ScoreboardCore" "stop" "I", Cond.instanceMethod yX3_init, Cond.code yX3_init cX3_init 1 none]
def wsX8_init_r2 : List Cond := [Cond.methodLink RX3 3 objectInit, Cond.arrayClass .long, Cond.fieldLink RX3 9 "ScoreboardCore$Memory" "words" "[J", Cond.fieldLink RX3 15 "ScoreboardCore$Memory" "program" "[J", Cond.instanceMethod yX6_init, Cond.code yX6_init cX6_init 1 none, Cond.methodLink RX6 3 objectInit, Cond.fieldLink RX6 9 "ScoreboardCore$Registers" "values" "[J", Cond.instanceMethod yX0_init, Cond.code yX0_init cX0_init 1 none, Cond.methodLink RX0 3 objectInit, Cond.arrayClass .int, Cond.fieldLink RX0 11 "ScoreboardCore$Board" "doneCounts" "[I", Cond.fieldLink RX0 15 "ScoreboardCore$Board" "waitCounts" "[J", Cond.fieldLink RX0 19 "ScoreboardCore$Board" "unitFreeFrom" "[I", Cond.fieldLink RX0 22 "ScoreboardCore$Board" "registerFreeFrom" "[I", Cond.fieldLink RX0 25 "ScoreboardCore$Board" "registerLastRead" "[I", Cond.instanceMethod yX1_init, Cond.code yX1_init cX1_init 1 none, Cond.methodLink RX1 5 objectInit, Cond.classLink RX1 11 RX5, Cond.instantiable RX5 2, Cond.initialized RX5, Cond.fieldLink RX1 14 "ScoreboardCore$Instruction" "needs" "LScoreboardCore$RegisterList;"]
def wsX8_init_r3 : List Cond := [Cond.fieldLink RX1 18 "ScoreboardCore$Instruction" "results" "LScoreboardCore$RegisterList;", Cond.instanceMethod yX5_init, Cond.code yX5_init cX5_init 1 none, Cond.methodLink RX5 3 objectInit, Cond.fieldLink RX5 11 "ScoreboardCore$RegisterList" "numbers" "[I"]
def wsX8_init : List Cond := .code yX8_init cX8_init 1 none :: ((wsX8_init_r1 ++ (wsX8_init_r2 ++ wsX8_init_r3)) ++ wsX30 ++ wsX80 ++ wsX60 ++ wsX00 ++ wsX10 ++ wsX50)
def wsX8_write : List Cond := .code yX8_write cX8_write 6 (some .long) :: ([.classLink RX8 51 "java/lang/IndexOutOfBoundsException", .initialized "java/lang/IndexOutOfBoundsException", .fieldLink RX8 10 "ScoreboardCore" "memory" "LScoreboardCore$Memory;", .methodLink RX8 47 yX3_holds, .static yX3_holds, .initialized RX3, .code yX3_holds cX3_holds 1 (some .boolean), .methodLink RX8 54 yX3_load, .instanceMethod yX3_load, .selects RX3 yX3_load yX3_load, .code yX3_load cX3_load 2 (some .long), .fieldLink RX3 9 "ScoreboardCore$Memory" "words" "[J", .methodLink RX3 18 yX3_holds, .methodLink RX8 58 yX3_store, .instanceMethod yX3_store, .selects RX3 yX3_store yX3_store, .code yX3_store cX3_store 4 none, .constantLong RX3 22 (1152921504606846975)] ++ wsX80 ++ wsX30 ++ (vx_at0 RX8 53 "java/lang/IndexOutOfBoundsException" ["java/lang/RuntimeException", "java/lang/Exception"]).filter goodWord)
def wsX8_read : List Cond := .code yX8_read cX8_read 2 (some .long) :: ([.classLink RX8 51 "java/lang/IndexOutOfBoundsException", .initialized "java/lang/IndexOutOfBoundsException", .fieldLink RX8 10 "ScoreboardCore" "memory" "LScoreboardCore$Memory;", .methodLink RX8 47 yX3_holds, .static yX3_holds, .initialized RX3, .code yX3_holds cX3_holds 1 (some .boolean), .methodLink RX8 54 yX3_load, .instanceMethod yX3_load, .selects RX3 yX3_load yX3_load, .code yX3_load cX3_load 2 (some .long), .fieldLink RX3 9 "ScoreboardCore$Memory" "words" "[J", .methodLink RX3 18 yX3_holds] ++ wsX80 ++ wsX30 ++ (vx_at0 RX8 53 "java/lang/IndexOutOfBoundsException" ["java/lang/RuntimeException", "java/lang/Exception"]).filter goodWord)
def wsX8_register : List Cond := .code yX8_register cX8_register 2 (some .long) :: ([.classLink RX8 51 "java/lang/IndexOutOfBoundsException", .initialized "java/lang/IndexOutOfBoundsException", .fieldLink RX8 19 "ScoreboardCore" "registers" "LScoreboardCore$Registers;", .methodLink RX8 62 yX6_get, .instanceMethod yX6_get, .selects RX6 yX6_get yX6_get, .initialized RX6, .code yX6_get cX6_get 2 (some .long), .fieldLink RX6 9 "ScoreboardCore$Registers" "values" "[J"] ++ wsX80 ++ wsX60 ++ (vx_at0 RX8 53 "java/lang/IndexOutOfBoundsException" ["java/lang/RuntimeException", "java/lang/Exception"]).filter goodWord)
def wsX8_put : List Cond := .code yX8_put cX8_put 4 none :: ([.classLink RX8 51 "java/lang/IndexOutOfBoundsException", .initialized "java/lang/IndexOutOfBoundsException", .fieldLink RX8 19 "ScoreboardCore" "registers" "LScoreboardCore$Registers;", .methodLink RX8 65 yX6_set, .instanceMethod yX6_set, .selects RX6 yX6_set yX6_set, .initialized RX6, .code yX6_set cX6_set 4 none, .fieldLink RX6 9 "ScoreboardCore$Registers" "values" "[J", .constantLong RX6 15 (1152921504606846975), .constantLong RX6 17 (262143)] ++ wsX80 ++ wsX60 ++ (vx_at0 RX8 53 "java/lang/IndexOutOfBoundsException" ["java/lang/RuntimeException", "java/lang/Exception"]).filter goodWord)
def wsX8_goOnAt : List Cond := .code yX8_goOnAt cX8_goOnAt 2 none :: ([.fieldLink RX8 37 "ScoreboardCore" "word" "I", .fieldLink RX8 41 "ScoreboardCore" "parcel" "I", .fieldLink RX8 44 "ScoreboardCore" "stop" "I", .methodLink RX8 47 yX3_holds, .static yX3_holds, .initialized RX3, .code yX3_holds cX3_holds 1 (some .boolean)] ++ wsX80)
def wsX8_start : List Cond := .code yX8_start cX8_start 2 none :: ([.classLink RX8 68 "java/lang/IllegalArgumentException", .initialized "java/lang/IllegalArgumentException", .fieldLink RX8 44 "ScoreboardCore" "stop" "I", .methodLink RX8 47 yX3_holds, .static yX3_holds, .initialized RX3, .code yX3_holds cX3_holds 1 (some .boolean), .methodLink RX8 71 yX8_goOnAt, .instanceMethod yX8_goOnAt, .selects RX8 yX8_goOnAt yX8_goOnAt, .initialized RX8, .code yX8_goOnAt cX8_goOnAt 2 none, .fieldLink RX8 37 "ScoreboardCore" "word" "I", .fieldLink RX8 41 "ScoreboardCore" "parcel" "I"] ++ wsX80 ++ (vx_at0 RX8 70 "java/lang/IllegalArgumentException" ["java/lang/RuntimeException", "java/lang/Exception"]).filter goodWord)
def wsX8_goOnBehind : List Cond := .code yX8_goOnBehind cX8_goOnBehind 2 none :: ([.fieldLink RX8 41 "ScoreboardCore" "parcel" "I", .fieldLink RX8 33 "ScoreboardCore" "instruction" "LScoreboardCore$Instruction;", .fieldLink RX8 37 "ScoreboardCore" "word" "I", .methodLink RX8 155 yX1_parcels, .instanceMethod yX1_parcels, .selects RX1 yX1_parcels yX1_parcels, .initialized RX1, .code yX1_parcels cX1_parcels 2 (some .int), .fieldLink RX1 25 "ScoreboardCore$Instruction" "op" "I", .methodLink RX1 57 yX1_isJump, .instanceMethod yX1_isJump, .selects RX1 yX1_isJump yX1_isJump, .code yX1_isJump cX1_isJump 1 (some .boolean), .methodLink RX8 71 yX8_goOnAt, .instanceMethod yX8_goOnAt, .selects RX8 yX8_goOnAt yX8_goOnAt, .initialized RX8, .code yX8_goOnAt cX8_goOnAt 2 none, .fieldLink RX8 44 "ScoreboardCore" "stop" "I", .methodLink RX8 47 yX3_holds, .static yX3_holds, .initialized RX3, .code yX3_holds cX3_holds 1 (some .boolean)] ++ wsX80 ++ wsX10)
def wsX8_takeJump_r1 : List Cond := [Cond.fieldLink RX8 33 "ScoreboardCore" "instruction" "LScoreboardCore$Instruction;", Cond.fieldLink RX8 19 "ScoreboardCore" "registers" "LScoreboardCore$Registers;", Cond.fieldLink RX8 26 "ScoreboardCore" "board" "LScoreboardCore$Board;", Cond.fieldLink RX8 10 "ScoreboardCore" "memory" "LScoreboardCore$Memory;", Cond.fieldLink RX8 37 "ScoreboardCore" "word" "I", Cond.methodLink RX8 129 yX2_goesElsewhere, Cond.static yX2_goesElsewhere, Cond.initialized RX2, Cond.code yX2_goesElsewhere cX2_goesElsewhere 2 (some .boolean), Cond.methodLink RX2 9 yX1_op, Cond.instanceMethod yX1_op, Cond.selects RX1 yX1_op yX1_op, Cond.initialized RX1, Cond.code yX1_op cX1_op 1 (some .int), Cond.fieldLink RX1 25 "ScoreboardCore$Instruction" "op" "I", Cond.methodLink RX2 15 yX1_i, Cond.instanceMethod yX1_i, Cond.selects RX1 yX1_i yX1_i, Cond.code yX1_i cX1_i 1 (some .int), Cond.fieldLink RX1 28 "ScoreboardCore$Instruction" "i" "I", Cond.methodLink RX2 18 yX1_j, Cond.instanceMethod yX1_j, Cond.selects RX1 yX1_j yX1_j, Cond.code yX1_j cX1_j 1 (some .int)]
def wsX8_takeJump_r2 : List Cond := [Cond.fieldLink RX1 31 "ScoreboardCore$Instruction" "j" "I", Cond.methodLink RX2 21 yX6_x, Cond.instanceMethod yX6_x, Cond.selects RX6 yX6_x yX6_x, Cond.initialized RX6, Cond.code yX6_x cX6_x 2 (some .long), Cond.fieldLink RX6 9 "ScoreboardCore$Registers" "values" "[J", Cond.methodLink RX2 27 yX2_wordHolds, Cond.static yX2_wordHolds, Cond.code yX2_wordHolds cX2_wordHolds 3 (some .boolean), Cond.methodLink RX2 53 yX4_isZero, Cond.static yX4_isZero, Cond.initialized RX4, Cond.code yX4_isZero cX4_isZero 2 (some .boolean), Cond.constantLong RX4 17 (1152921504606846975), Cond.methodLink RX2 57 yX4_isNegative, Cond.static yX4_isNegative, Cond.code yX4_isNegative cX4_isNegative 2 (some .boolean), Cond.methodLink RX2 33 yX6_b, Cond.instanceMethod yX6_b, Cond.selects RX6 yX6_b yX6_b, Cond.code yX6_b cX6_b 2 (some .long), Cond.methodLink RX2 36 yX2_shortsHold, Cond.static yX2_shortsHold]
def wsX8_takeJump_r3 : List Cond := [Cond.code yX2_shortsHold cX2_shortsHold 6 (some .boolean), Cond.methodLink RX2 60 yX4_plain, Cond.static yX4_plain, Cond.code yX4_plain cX4_plain 2 (some .long), Cond.constantLong RX4 25 (262143), Cond.methodLink RX4 19 yX4_isShortNegative, Cond.static yX4_isShortNegative, Cond.code yX4_isShortNegative cX4_isShortNegative 2 (some .boolean), Cond.constantLong RX4 15 (131071), Cond.methodLink RX2 64 yJ13_compare_74951, Cond.static yJ13_compare_74951, Cond.initialized RJ13, Cond.code yJ13_compare_74951 cJ13_compare_74951 4 (some .int), Cond.methodLink RX8 135 yX0_doJump, Cond.instanceMethod yX0_doJump, Cond.selects RX0 yX0_doJump yX0_doJump, Cond.initialized RX0, Cond.code yX0_doJump cX0_doJump 5 none, Cond.fieldLink RX0 22 "ScoreboardCore$Board" "registerFreeFrom" "[I", Cond.fieldLink RX0 38 "ScoreboardCore$Board" "memoryLastEnd" "I", Cond.fieldLink RX0 42 "ScoreboardCore$Board" "earliest" "I", Cond.fieldLink RX0 11 "ScoreboardCore$Board" "doneCounts" "[I", Cond.methodLink RX0 69 yX1_needs, Cond.instanceMethod yX1_needs]
def wsX8_takeJump_r4 : List Cond := [Cond.selects RX1 yX1_needs yX1_needs, Cond.code yX1_needs cX1_needs 1 (some (.object "ScoreboardCore$RegisterList")), Cond.fieldLink RX1 14 "ScoreboardCore$Instruction" "needs" "LScoreboardCore$RegisterList;", Cond.methodLink RX0 73 yX5_latestIn, Cond.instanceMethod yX5_latestIn, Cond.selects RX5 yX5_latestIn yX5_latestIn, Cond.initialized RX5, Cond.code yX5_latestIn cX5_latestIn 4 (some .int), Cond.fieldLink RX5 15 "ScoreboardCore$RegisterList" "size" "I", Cond.fieldLink RX5 11 "ScoreboardCore$RegisterList" "numbers" "[I", Cond.methodLink RX5 23 Lib.Math.max.name, Cond.static Lib.Math.max.name, Cond.initialized "java/lang/Math", Cond.code Lib.Math.max.name Lib.Math.max.code 2 (some .int), Cond.methodLink RX0 79 yX1_op, Cond.methodLink RX0 82 yX0_waitFor, Cond.instanceMethod yX0_waitFor, Cond.selects RX0 yX0_waitFor yX0_waitFor, Cond.code yX0_waitFor cX0_waitFor 5 (some .int), Cond.methodLink RX0 118 Lib.Math.max.name, Cond.fieldLink RX0 15 "ScoreboardCore$Board" "waitCounts" "[J", Cond.methodLink RX0 62 yX0_reach, Cond.instanceMethod yX0_reach, Cond.selects RX0 yX0_reach yX0_reach]
def wsX8_takeJump_r5 : List Cond := [Cond.code yX0_reach cX0_reach 2 none, Cond.fieldLink RX0 45 "ScoreboardCore$Board" "last" "I", Cond.methodLink RX8 126 yX8_goOnBehind, Cond.instanceMethod yX8_goOnBehind, Cond.selects RX8 yX8_goOnBehind yX8_goOnBehind, Cond.initialized RX8, Cond.code yX8_goOnBehind cX8_goOnBehind 2 none, Cond.fieldLink RX8 41 "ScoreboardCore" "parcel" "I", Cond.methodLink RX8 155 yX1_parcels, Cond.instanceMethod yX1_parcels, Cond.selects RX1 yX1_parcels yX1_parcels, Cond.code yX1_parcels cX1_parcels 2 (some .int), Cond.methodLink RX1 57 yX1_isJump, Cond.instanceMethod yX1_isJump, Cond.selects RX1 yX1_isJump yX1_isJump, Cond.code yX1_isJump cX1_isJump 1 (some .boolean), Cond.methodLink RX8 71 yX8_goOnAt, Cond.instanceMethod yX8_goOnAt, Cond.selects RX8 yX8_goOnAt yX8_goOnAt, Cond.code yX8_goOnAt cX8_goOnAt 2 none, Cond.fieldLink RX8 44 "ScoreboardCore" "stop" "I", Cond.methodLink RX8 47 yX3_holds, Cond.static yX3_holds, Cond.initialized RX3]
def wsX8_takeJump_r6 : List Cond := [Cond.code yX3_holds cX3_holds 1 (some .boolean), Cond.methodLink RX8 139 yX2_target, Cond.static yX2_target, Cond.code yX2_target cX2_target 2 (some .int), Cond.constantLong RX2 43 (262143), Cond.methodLink RX2 40 yX1_constant, Cond.instanceMethod yX1_constant, Cond.selects RX1 yX1_constant yX1_constant, Cond.code yX1_constant cX1_constant 1 (some .int), Cond.fieldLink RX1 38 "ScoreboardCore$Instruction" "constant" "I", Cond.methodLink RX2 45 yX4_sum, Cond.static yX4_sum, Cond.code yX4_sum cX4_sum 9 (some .long), Cond.methodLink RX8 143 yX1_op, Cond.methodLink RX8 146 yX1_constant, Cond.methodLink RX8 149 yX2_wayBack, Cond.static yX2_wayBack, Cond.code yX2_wayBack cX2_wayBack 1 (some .long), Cond.constantLong RX2 51 (72057594037927936), Cond.methodLink RX8 152 yX3_storeInProgram, Cond.instanceMethod yX3_storeInProgram, Cond.selects RX3 yX3_storeInProgram yX3_storeInProgram, Cond.code yX3_storeInProgram cX3_storeInProgram 4 none, Cond.fieldLink RX3 15 "ScoreboardCore$Memory" "program" "[J"]
def wsX8_takeJump_r7 : List Cond := [Cond.constantLong RX3 22 (1152921504606846975), Cond.methodLink RX3 30 yX3_store, Cond.instanceMethod yX3_store, Cond.selects RX3 yX3_store yX3_store, Cond.code yX3_store cX3_store 4 none, Cond.fieldLink RX3 9 "ScoreboardCore$Memory" "words" "[J", Cond.methodLink RX3 18 yX3_holds]
def wsX8_takeJump : List Cond := .code yX8_takeJump cX8_takeJump 3 none :: ((wsX8_takeJump_r1 ++ (wsX8_takeJump_r2 ++ (wsX8_takeJump_r3 ++ (wsX8_takeJump_r4 ++ (wsX8_takeJump_r5 ++ (wsX8_takeJump_r6 ++ wsX8_takeJump_r7)))))) ++ wsX80 ++ wsX10 ++ wsX60 ++ wsX00 ++ wsX50 ++ wsX30)
def wsX8_takeNext_r1 : List Cond := [Cond.fieldLink RX8 33 "ScoreboardCore" "instruction" "LScoreboardCore$Instruction;", Cond.fieldLink RX8 10 "ScoreboardCore" "memory" "LScoreboardCore$Memory;", Cond.fieldLink RX8 37 "ScoreboardCore" "word" "I", Cond.fieldLink RX8 41 "ScoreboardCore" "parcel" "I", Cond.fieldLink RX8 44 "ScoreboardCore" "stop" "I", Cond.fieldLink RX8 26 "ScoreboardCore" "board" "LScoreboardCore$Board;", Cond.fieldLink RX8 19 "ScoreboardCore" "registers" "LScoreboardCore$Registers;", Cond.methodLink RX8 99 yX3_programWord, Cond.instanceMethod yX3_programWord, Cond.selects RX3 yX3_programWord yX3_programWord, Cond.initialized RX3, Cond.code yX3_programWord cX3_programWord 2 (some .long), Cond.fieldLink RX3 15 "ScoreboardCore$Memory" "program" "[J", Cond.methodLink RX3 18 yX3_holds, Cond.static yX3_holds, Cond.code yX3_holds cX3_holds 1 (some .boolean), Cond.methodLink RX8 102 yX1_decode, Cond.instanceMethod yX1_decode, Cond.selects RX1 yX1_decode yX1_decode, Cond.initialized RX1, Cond.code yX1_decode cX1_decode 5 none, Cond.fieldLink RX1 21 "ScoreboardCore$Instruction" "parcelsLeft" "I", Cond.fieldLink RX1 25 "ScoreboardCore$Instruction" "op" "I", Cond.fieldLink RX1 28 "ScoreboardCore$Instruction" "i" "I"]
def wsX8_takeNext_r2 : List Cond := [Cond.fieldLink RX1 31 "ScoreboardCore$Instruction" "j" "I", Cond.fieldLink RX1 34 "ScoreboardCore$Instruction" "k" "I", Cond.constant RX1 37 (262143), Cond.fieldLink RX1 38 "ScoreboardCore$Instruction" "constant" "I", Cond.fieldLink RX1 45 "ScoreboardCore$Instruction" "unit" "I", Cond.fieldLink RX1 14 "ScoreboardCore$Instruction" "needs" "LScoreboardCore$RegisterList;", Cond.fieldLink RX1 18 "ScoreboardCore$Instruction" "results" "LScoreboardCore$RegisterList;", Cond.methodLink RX1 41 yX1_unitOf, Cond.static yX1_unitOf, Cond.code yX1_unitOf cX1_unitOf 1 (some .int), Cond.methodLink RX1 48 yX5_clear, Cond.instanceMethod yX5_clear, Cond.selects RX5 yX5_clear yX5_clear, Cond.initialized RX5, Cond.code yX5_clear cX5_clear 1 none, Cond.fieldLink RX5 15 "ScoreboardCore$RegisterList" "size" "I", Cond.methodLink RX1 51 yX1_listNeeds, Cond.instanceMethod yX1_listNeeds, Cond.selects RX1 yX1_listNeeds yX1_listNeeds, Cond.code yX1_listNeeds cX1_listNeeds 1 none, Cond.methodLink RX1 65 yX1_listLogicNeeds, Cond.instanceMethod yX1_listLogicNeeds, Cond.selects RX1 yX1_listLogicNeeds yX1_listLogicNeeds, Cond.code yX1_listLogicNeeds cX1_listLogicNeeds 1 none]
def wsX8_takeNext_r3 : List Cond := [Cond.methodLink RX1 71 yX5_addX, Cond.instanceMethod yX5_addX, Cond.selects RX5 yX5_addX yX5_addX, Cond.code yX5_addX cX5_addX 2 none, Cond.methodLink RX5 19 yX5_add, Cond.instanceMethod yX5_add, Cond.selects RX5 yX5_add yX5_add, Cond.code yX5_add cX5_add 2 none, Cond.fieldLink RX5 11 "ScoreboardCore$RegisterList" "numbers" "[I", Cond.methodLink RX1 68 yX1_listShiftNeeds, Cond.instanceMethod yX1_listShiftNeeds, Cond.selects RX1 yX1_listShiftNeeds yX1_listShiftNeeds, Cond.code yX1_listShiftNeeds cX1_listShiftNeeds 1 none, Cond.methodLink RX1 81 yX5_addB, Cond.instanceMethod yX5_addB, Cond.selects RX5 yX5_addB yX5_addB, Cond.code yX5_addB cX5_addB 2 none, Cond.methodLink RX1 75 yX1_listAddressNeeds, Cond.instanceMethod yX1_listAddressNeeds, Cond.selects RX1 yX1_listAddressNeeds yX1_listAddressNeeds, Cond.code yX1_listAddressNeeds cX1_listAddressNeeds 1 none, Cond.methodLink RX1 84 yX5_addA, Cond.instanceMethod yX5_addA, Cond.selects RX5 yX5_addA yX5_addA]
def wsX8_takeNext_r4 : List Cond := [Cond.code yX5_addA cX5_addA 2 none, Cond.methodLink RX1 61 yX1_parcels, Cond.instanceMethod yX1_parcels, Cond.selects RX1 yX1_parcels yX1_parcels, Cond.code yX1_parcels cX1_parcels 2 (some .int), Cond.methodLink RX1 57 yX1_isJump, Cond.instanceMethod yX1_isJump, Cond.selects RX1 yX1_isJump yX1_isJump, Cond.code yX1_isJump cX1_isJump 1 (some .boolean), Cond.methodLink RX1 87 yX1_stores, Cond.instanceMethod yX1_stores, Cond.selects RX1 yX1_stores yX1_stores, Cond.code yX1_stores cX1_stores 1 (some .boolean), Cond.methodLink RX1 78 yX1_listJumpNeeds, Cond.instanceMethod yX1_listJumpNeeds, Cond.selects RX1 yX1_listJumpNeeds yX1_listJumpNeeds, Cond.code yX1_listJumpNeeds cX1_listJumpNeeds 1 none, Cond.methodLink RX1 54 yX1_listResults, Cond.instanceMethod yX1_listResults, Cond.selects RX1 yX1_listResults yX1_listResults, Cond.code yX1_listResults cX1_listResults 1 none, Cond.methodLink RX1 90 yX1_loads, Cond.instanceMethod yX1_loads, Cond.selects RX1 yX1_loads yX1_loads]
def wsX8_takeNext_r5 : List Cond := [Cond.code yX1_loads cX1_loads 1 (some .boolean), Cond.methodLink RX8 106 yX1_stopCode, Cond.instanceMethod yX1_stopCode, Cond.selects RX1 yX1_stopCode yX1_stopCode, Cond.code yX1_stopCode cX1_stopCode 3 (some .int), Cond.methodLink RX8 110 yX1_isJump, Cond.methodLink RX8 113 yX8_takeJump, Cond.instanceMethod yX8_takeJump, Cond.selects RX8 yX8_takeJump yX8_takeJump, Cond.initialized RX8, Cond.code yX8_takeJump cX8_takeJump 3 none, Cond.methodLink RX8 129 yX2_goesElsewhere, Cond.static yX2_goesElsewhere, Cond.initialized RX2, Cond.code yX2_goesElsewhere cX2_goesElsewhere 2 (some .boolean), Cond.methodLink RX2 9 yX1_op, Cond.instanceMethod yX1_op, Cond.selects RX1 yX1_op yX1_op, Cond.code yX1_op cX1_op 1 (some .int), Cond.methodLink RX2 15 yX1_i, Cond.instanceMethod yX1_i, Cond.selects RX1 yX1_i yX1_i, Cond.code yX1_i cX1_i 1 (some .int), Cond.methodLink RX2 18 yX1_j]
def wsX8_takeNext_r6 : List Cond := [Cond.instanceMethod yX1_j, Cond.selects RX1 yX1_j yX1_j, Cond.code yX1_j cX1_j 1 (some .int), Cond.methodLink RX2 21 yX6_x, Cond.instanceMethod yX6_x, Cond.selects RX6 yX6_x yX6_x, Cond.initialized RX6, Cond.code yX6_x cX6_x 2 (some .long), Cond.fieldLink RX6 9 "ScoreboardCore$Registers" "values" "[J", Cond.methodLink RX2 27 yX2_wordHolds, Cond.static yX2_wordHolds, Cond.code yX2_wordHolds cX2_wordHolds 3 (some .boolean), Cond.methodLink RX2 53 yX4_isZero, Cond.static yX4_isZero, Cond.initialized RX4, Cond.code yX4_isZero cX4_isZero 2 (some .boolean), Cond.constantLong RX4 17 (1152921504606846975), Cond.methodLink RX2 57 yX4_isNegative, Cond.static yX4_isNegative, Cond.code yX4_isNegative cX4_isNegative 2 (some .boolean), Cond.methodLink RX2 33 yX6_b, Cond.instanceMethod yX6_b, Cond.selects RX6 yX6_b yX6_b, Cond.code yX6_b cX6_b 2 (some .long)]
def wsX8_takeNext_r7 : List Cond := [Cond.methodLink RX2 36 yX2_shortsHold, Cond.static yX2_shortsHold, Cond.code yX2_shortsHold cX2_shortsHold 6 (some .boolean), Cond.methodLink RX2 60 yX4_plain, Cond.static yX4_plain, Cond.code yX4_plain cX4_plain 2 (some .long), Cond.constantLong RX4 25 (262143), Cond.methodLink RX4 19 yX4_isShortNegative, Cond.static yX4_isShortNegative, Cond.code yX4_isShortNegative cX4_isShortNegative 2 (some .boolean), Cond.constantLong RX4 15 (131071), Cond.methodLink RX2 64 yJ13_compare_74951, Cond.static yJ13_compare_74951, Cond.initialized RJ13, Cond.code yJ13_compare_74951 cJ13_compare_74951 4 (some .int), Cond.methodLink RX8 135 yX0_doJump, Cond.instanceMethod yX0_doJump, Cond.selects RX0 yX0_doJump yX0_doJump, Cond.initialized RX0, Cond.code yX0_doJump cX0_doJump 5 none, Cond.fieldLink RX0 22 "ScoreboardCore$Board" "registerFreeFrom" "[I", Cond.fieldLink RX0 38 "ScoreboardCore$Board" "memoryLastEnd" "I", Cond.fieldLink RX0 42 "ScoreboardCore$Board" "earliest" "I", Cond.fieldLink RX0 11 "ScoreboardCore$Board" "doneCounts" "[I"]
def wsX8_takeNext_r8 : List Cond := [Cond.methodLink RX0 69 yX1_needs, Cond.instanceMethod yX1_needs, Cond.selects RX1 yX1_needs yX1_needs, Cond.code yX1_needs cX1_needs 1 (some (.object "ScoreboardCore$RegisterList")), Cond.methodLink RX0 73 yX5_latestIn, Cond.instanceMethod yX5_latestIn, Cond.selects RX5 yX5_latestIn yX5_latestIn, Cond.code yX5_latestIn cX5_latestIn 4 (some .int), Cond.methodLink RX5 23 Lib.Math.max.name, Cond.static Lib.Math.max.name, Cond.initialized "java/lang/Math", Cond.code Lib.Math.max.name Lib.Math.max.code 2 (some .int), Cond.methodLink RX0 79 yX1_op, Cond.methodLink RX0 82 yX0_waitFor, Cond.instanceMethod yX0_waitFor, Cond.selects RX0 yX0_waitFor yX0_waitFor, Cond.code yX0_waitFor cX0_waitFor 5 (some .int), Cond.methodLink RX0 118 Lib.Math.max.name, Cond.fieldLink RX0 15 "ScoreboardCore$Board" "waitCounts" "[J", Cond.methodLink RX0 62 yX0_reach, Cond.instanceMethod yX0_reach, Cond.selects RX0 yX0_reach yX0_reach, Cond.code yX0_reach cX0_reach 2 none, Cond.fieldLink RX0 45 "ScoreboardCore$Board" "last" "I"]
def wsX8_takeNext_r9 : List Cond := [Cond.methodLink RX8 126 yX8_goOnBehind, Cond.instanceMethod yX8_goOnBehind, Cond.selects RX8 yX8_goOnBehind yX8_goOnBehind, Cond.code yX8_goOnBehind cX8_goOnBehind 2 none, Cond.methodLink RX8 155 yX1_parcels, Cond.methodLink RX8 71 yX8_goOnAt, Cond.instanceMethod yX8_goOnAt, Cond.selects RX8 yX8_goOnAt yX8_goOnAt, Cond.code yX8_goOnAt cX8_goOnAt 2 none, Cond.methodLink RX8 47 yX3_holds, Cond.methodLink RX8 139 yX2_target, Cond.static yX2_target, Cond.code yX2_target cX2_target 2 (some .int), Cond.constantLong RX2 43 (262143), Cond.methodLink RX2 40 yX1_constant, Cond.instanceMethod yX1_constant, Cond.selects RX1 yX1_constant yX1_constant, Cond.code yX1_constant cX1_constant 1 (some .int), Cond.methodLink RX2 45 yX4_sum, Cond.static yX4_sum, Cond.code yX4_sum cX4_sum 9 (some .long), Cond.methodLink RX8 143 yX1_op, Cond.methodLink RX8 146 yX1_constant, Cond.methodLink RX8 149 yX2_wayBack]
def wsX8_takeNext_r10 : List Cond := [Cond.static yX2_wayBack, Cond.code yX2_wayBack cX2_wayBack 1 (some .long), Cond.constantLong RX2 51 (72057594037927936), Cond.methodLink RX8 152 yX3_storeInProgram, Cond.instanceMethod yX3_storeInProgram, Cond.selects RX3 yX3_storeInProgram yX3_storeInProgram, Cond.code yX3_storeInProgram cX3_storeInProgram 4 none, Cond.constantLong RX3 22 (1152921504606846975), Cond.methodLink RX3 30 yX3_store, Cond.instanceMethod yX3_store, Cond.selects RX3 yX3_store yX3_store, Cond.code yX3_store cX3_store 4 none, Cond.fieldLink RX3 9 "ScoreboardCore$Memory" "words" "[J", Cond.methodLink RX8 116 yX0_giveOut, Cond.instanceMethod yX0_giveOut, Cond.selects RX0 yX0_giveOut yX0_giveOut, Cond.code yX0_giveOut cX0_giveOut 3 none, Cond.methodLink RX0 48 yX1_unit, Cond.instanceMethod yX1_unit, Cond.selects RX1 yX1_unit yX1_unit, Cond.code yX1_unit cX1_unit 1 (some .int), Cond.methodLink RX0 54 yX0_givenOutAt, Cond.instanceMethod yX0_givenOutAt, Cond.selects RX0 yX0_givenOutAt yX0_givenOutAt]
def wsX8_takeNext_r11 : List Cond := [Cond.code yX0_givenOutAt cX0_givenOutAt 5 (some .int), Cond.fieldLink RX0 19 "ScoreboardCore$Board" "unitFreeFrom" "[I", Cond.methodLink RX0 86 Lib.Math.min.name, Cond.static Lib.Math.min.name, Cond.code Lib.Math.min.name Lib.Math.min.code 2 (some .int), Cond.methodLink RX0 92 yX1_results, Cond.instanceMethod yX1_results, Cond.selects RX1 yX1_results yX1_results, Cond.code yX1_results cX1_results 1 (some (.object "ScoreboardCore$RegisterList")), Cond.methodLink RX0 58 yX0_occupyUnit, Cond.instanceMethod yX0_occupyUnit, Cond.selects RX0 yX0_occupyUnit yX0_occupyUnit, Cond.code yX0_occupyUnit cX0_occupyUnit 6 none, Cond.fieldLink RX0 98 "ScoreboardCore$Board" "UNIT_CYCLES" "[I", Cond.fieldLink RX0 25 "ScoreboardCore$Board" "registerLastRead" "[I", Cond.methodLink RX0 95 yX0_unitFreeAt, Cond.instanceMethod yX0_unitFreeAt, Cond.selects RX0 yX0_unitFreeAt yX0_unitFreeAt, Cond.code yX0_unitFreeAt cX0_unitFreeAt 4 (some .int), Cond.methodLink RX0 101 yX0_endsAt, Cond.instanceMethod yX0_endsAt, Cond.selects RX0 yX0_endsAt yX0_endsAt, Cond.code yX0_endsAt cX0_endsAt 4 (some .int), Cond.methodLink RX0 108 yX1_loads]
def wsX8_takeNext_r12 : List Cond := [Cond.methodLink RX0 112 yX1_stores, Cond.methodLink RX0 105 yX5_raiseIn, Cond.instanceMethod yX5_raiseIn, Cond.selects RX5 yX5_raiseIn yX5_raiseIn, Cond.code yX5_raiseIn cX5_raiseIn 5 none, Cond.methodLink RX0 115 yX1_i, Cond.methodLink RX0 66 yX1_parcels, Cond.methodLink RX8 120 yX7_apply, Cond.static yX7_apply, Cond.initialized RX7, Cond.code yX7_apply cX7_apply 3 none, Cond.methodLink RX7 9 yX1_unit, Cond.methodLink RX7 15 yX1_i, Cond.methodLink RX7 18 yX1_op, Cond.methodLink RX7 21 yX1_j, Cond.methodLink RX7 24 yX6_x, Cond.methodLink RX7 30 yX1_k, Cond.instanceMethod yX1_k, Cond.selects RX1 yX1_k yX1_k, Cond.code yX1_k cX1_k 1 (some .int), Cond.methodLink RX7 33 yX7_logic, Cond.static yX7_logic, Cond.code yX7_logic cX7_logic 5 (some .long), Cond.constantLong RX7 60 (-1)]
def wsX8_takeNext_r13 : List Cond := [Cond.methodLink RX7 39 yX6_set, Cond.instanceMethod yX6_set, Cond.selects RX6 yX6_set yX6_set, Cond.code yX6_set cX6_set 4 none, Cond.constantLong RX6 15 (1152921504606846975), Cond.constantLong RX6 17 (262143), Cond.methodLink RX7 43 yX7_shift, Cond.static yX7_shift, Cond.code yX7_shift cX7_shift 2 (some .long), Cond.methodLink RX7 62 yX1_jk, Cond.instanceMethod yX1_jk, Cond.selects RX1 yX1_jk yX1_jk, Cond.code yX1_jk cX1_jk 1 (some .int), Cond.methodLink RX7 65 yX4_turnedRoundLeft, Cond.static yX4_turnedRoundLeft, Cond.code yX4_turnedRoundLeft cX4_turnedRoundLeft 4 (some .long), Cond.methodLink RX7 71 yX4_shiftedRight, Cond.static yX4_shiftedRight, Cond.code yX4_shiftedRight cX4_shiftedRight 5 (some .long), Cond.constantLong RX4 30 (-1152921504606846976), Cond.methodLink RX4 32 Lib.Math.min.name, Cond.methodLink RX4 27 yX4_isNegative, Cond.methodLink RX7 74 yX6_b, Cond.methodLink RX7 77 yX7_shiftBy]
def wsX8_takeNext_r14 : List Cond := [Cond.static yX7_shiftBy, Cond.code yX7_shiftBy cX7_shiftBy 7 (some .long), Cond.methodLink RX7 84 yX4_isShortNegative, Cond.methodLink RX7 81 yX4_highestBits, Cond.static yX4_highestBits, Cond.code yX4_highestBits cX4_highestBits 1 (some .long), Cond.methodLink RX7 47 yX7_wordSum, Cond.static yX7_wordSum, Cond.code yX7_wordSum cX7_wordSum 5 (some .long), Cond.constantLong RX7 88 (1152921504606846975), Cond.methodLink RX7 90 yX4_sum, Cond.methodLink RX7 94 yX4_difference, Cond.static yX4_difference, Cond.code yX4_difference cX4_difference 6 (some .long), Cond.methodLink RX4 9 yX4_sum, Cond.methodLink RX7 50 yJ13_bitCount_95d88, Cond.static yJ13_bitCount_95d88, Cond.code yJ13_bitCount_95d88 cJ13_bitCount_95d88 2 (some .int), Cond.constantLong RJ13 314 (6148914691236517205), Cond.constantLong RJ13 316 (3689348814741910323), Cond.constantLong RJ13 318 (1085102592571150095), Cond.methodLink RX7 56 yX7_applyAddress, Cond.static yX7_applyAddress, Cond.code yX7_applyAddress cX7_applyAddress 6 none]
def wsX8_takeNext_r15 : List Cond := [Cond.methodLink RX7 97 yX7_shortSum, Cond.static yX7_shortSum, Cond.code yX7_shortSum cX7_shortSum 10 (some .long), Cond.constantLong RX7 126 (262143), Cond.methodLink RX7 123 yX6_a, Cond.instanceMethod yX6_a, Cond.selects RX6 yX6_a yX6_a, Cond.code yX6_a cX6_a 2 (some .long), Cond.methodLink RX7 128 yX1_constant, Cond.methodLink RX7 100 yX7_reachMemory, Cond.static yX7_reachMemory, Cond.code yX7_reachMemory cX7_reachMemory 4 none, Cond.methodLink RX7 108 yX1_loads, Cond.methodLink RX7 112 yX3_load, Cond.instanceMethod yX3_load, Cond.selects RX3 yX3_load yX3_load, Cond.code yX3_load cX3_load 2 (some .long), Cond.methodLink RX7 117 yX1_stores, Cond.methodLink RX7 120 yX3_store, Cond.methodLink RX7 104 yX4_extended, Cond.static yX4_extended, Cond.code yX4_extended cX4_extended 2 (some .long), Cond.constantLong RX4 23 (1152921504606584832)]
def wsX8_takeNext : List Cond := .code yX8_takeNext cX8_takeNext 1 (some .boolean) :: ((wsX8_takeNext_r1 ++ (wsX8_takeNext_r2 ++ (wsX8_takeNext_r3 ++ (wsX8_takeNext_r4 ++ (wsX8_takeNext_r5 ++ (wsX8_takeNext_r6 ++ (wsX8_takeNext_r7 ++ (wsX8_takeNext_r8 ++ (wsX8_takeNext_r9 ++ (wsX8_takeNext_r10 ++ (wsX8_takeNext_r11 ++ (wsX8_takeNext_r12 ++ (wsX8_takeNext_r13 ++ (wsX8_takeNext_r14 ++ wsX8_takeNext_r15)))))))))))))) ++ wsX80 ++ wsX30 ++ wsX10 ++ wsX50 ++ wsX60 ++ wsX00)
def wsX8_run_r1 : List Cond := [Cond.classLink RX8 68 "java/lang/IllegalArgumentException", Cond.initialized "java/lang/IllegalArgumentException", Cond.fieldLink RX8 10 "ScoreboardCore" "memory" "LScoreboardCore$Memory;", Cond.fieldLink RX8 26 "ScoreboardCore" "board" "LScoreboardCore$Board;", Cond.fieldLink RX8 44 "ScoreboardCore" "stop" "I", Cond.methodLink RX8 75 yX3_keepProgram, Cond.instanceMethod yX3_keepProgram, Cond.selects RX3 yX3_keepProgram yX3_keepProgram, Cond.initialized RX3, Cond.code yX3_keepProgram cX3_keepProgram 1 none, Cond.fieldLink RX3 9 "ScoreboardCore$Memory" "words" "[J", Cond.fieldLink RX3 15 "ScoreboardCore$Memory" "program" "[J", Cond.methodLink RX3 24 arraycopyName, Cond.native arraycopyName, Cond.static arraycopyName, Cond.initialized "java/lang/System", Cond.methodLink RX8 78 yX0_empty, Cond.instanceMethod yX0_empty, Cond.selects RX0 yX0_empty yX0_empty, Cond.initialized RX0, Cond.code yX0_empty cX0_empty 1 none, Cond.fieldLink RX0 19 "ScoreboardCore$Board" "unitFreeFrom" "[I", Cond.fieldLink RX0 22 "ScoreboardCore$Board" "registerFreeFrom" "[I", Cond.fieldLink RX0 25 "ScoreboardCore$Board" "registerLastRead" "[I"]
def wsX8_run_r2 : List Cond := [Cond.fieldLink RX0 38 "ScoreboardCore$Board" "memoryLastEnd" "I", Cond.fieldLink RX0 42 "ScoreboardCore$Board" "earliest" "I", Cond.fieldLink RX0 45 "ScoreboardCore$Board" "last" "I", Cond.methodLink RX0 32 yJ7_fill_53178, Cond.static yJ7_fill_53178, Cond.initialized RJ7, Cond.code yJ7_fill_53178 cJ7_fill_53178 4 none, Cond.methodLink RX8 81 yX8_takeNext, Cond.instanceMethod yX8_takeNext, Cond.selects RX8 yX8_takeNext yX8_takeNext, Cond.initialized RX8, Cond.code yX8_takeNext cX8_takeNext 1 (some .boolean), Cond.fieldLink RX8 33 "ScoreboardCore" "instruction" "LScoreboardCore$Instruction;", Cond.fieldLink RX8 37 "ScoreboardCore" "word" "I", Cond.fieldLink RX8 41 "ScoreboardCore" "parcel" "I", Cond.fieldLink RX8 19 "ScoreboardCore" "registers" "LScoreboardCore$Registers;", Cond.methodLink RX8 99 yX3_programWord, Cond.instanceMethod yX3_programWord, Cond.selects RX3 yX3_programWord yX3_programWord, Cond.code yX3_programWord cX3_programWord 2 (some .long), Cond.methodLink RX3 18 yX3_holds, Cond.static yX3_holds, Cond.code yX3_holds cX3_holds 1 (some .boolean), Cond.methodLink RX8 102 yX1_decode]
def wsX8_run_r3 : List Cond := [Cond.instanceMethod yX1_decode, Cond.selects RX1 yX1_decode yX1_decode, Cond.initialized RX1, Cond.code yX1_decode cX1_decode 5 none, Cond.fieldLink RX1 21 "ScoreboardCore$Instruction" "parcelsLeft" "I", Cond.fieldLink RX1 25 "ScoreboardCore$Instruction" "op" "I", Cond.fieldLink RX1 28 "ScoreboardCore$Instruction" "i" "I", Cond.fieldLink RX1 31 "ScoreboardCore$Instruction" "j" "I", Cond.fieldLink RX1 34 "ScoreboardCore$Instruction" "k" "I", Cond.constant RX1 37 (262143), Cond.fieldLink RX1 38 "ScoreboardCore$Instruction" "constant" "I", Cond.fieldLink RX1 45 "ScoreboardCore$Instruction" "unit" "I", Cond.fieldLink RX1 14 "ScoreboardCore$Instruction" "needs" "LScoreboardCore$RegisterList;", Cond.fieldLink RX1 18 "ScoreboardCore$Instruction" "results" "LScoreboardCore$RegisterList;", Cond.methodLink RX1 41 yX1_unitOf, Cond.static yX1_unitOf, Cond.code yX1_unitOf cX1_unitOf 1 (some .int), Cond.methodLink RX1 48 yX5_clear, Cond.instanceMethod yX5_clear, Cond.selects RX5 yX5_clear yX5_clear, Cond.initialized RX5, Cond.code yX5_clear cX5_clear 1 none, Cond.fieldLink RX5 15 "ScoreboardCore$RegisterList" "size" "I", Cond.methodLink RX1 51 yX1_listNeeds]
def wsX8_run_r4 : List Cond := [Cond.instanceMethod yX1_listNeeds, Cond.selects RX1 yX1_listNeeds yX1_listNeeds, Cond.code yX1_listNeeds cX1_listNeeds 1 none, Cond.methodLink RX1 65 yX1_listLogicNeeds, Cond.instanceMethod yX1_listLogicNeeds, Cond.selects RX1 yX1_listLogicNeeds yX1_listLogicNeeds, Cond.code yX1_listLogicNeeds cX1_listLogicNeeds 1 none, Cond.methodLink RX1 71 yX5_addX, Cond.instanceMethod yX5_addX, Cond.selects RX5 yX5_addX yX5_addX, Cond.code yX5_addX cX5_addX 2 none, Cond.methodLink RX5 19 yX5_add, Cond.instanceMethod yX5_add, Cond.selects RX5 yX5_add yX5_add, Cond.code yX5_add cX5_add 2 none, Cond.fieldLink RX5 11 "ScoreboardCore$RegisterList" "numbers" "[I", Cond.methodLink RX1 68 yX1_listShiftNeeds, Cond.instanceMethod yX1_listShiftNeeds, Cond.selects RX1 yX1_listShiftNeeds yX1_listShiftNeeds, Cond.code yX1_listShiftNeeds cX1_listShiftNeeds 1 none, Cond.methodLink RX1 81 yX5_addB, Cond.instanceMethod yX5_addB, Cond.selects RX5 yX5_addB yX5_addB, Cond.code yX5_addB cX5_addB 2 none]
def wsX8_run_r5 : List Cond := [Cond.methodLink RX1 75 yX1_listAddressNeeds, Cond.instanceMethod yX1_listAddressNeeds, Cond.selects RX1 yX1_listAddressNeeds yX1_listAddressNeeds, Cond.code yX1_listAddressNeeds cX1_listAddressNeeds 1 none, Cond.methodLink RX1 84 yX5_addA, Cond.instanceMethod yX5_addA, Cond.selects RX5 yX5_addA yX5_addA, Cond.code yX5_addA cX5_addA 2 none, Cond.methodLink RX1 61 yX1_parcels, Cond.instanceMethod yX1_parcels, Cond.selects RX1 yX1_parcels yX1_parcels, Cond.code yX1_parcels cX1_parcels 2 (some .int), Cond.methodLink RX1 57 yX1_isJump, Cond.instanceMethod yX1_isJump, Cond.selects RX1 yX1_isJump yX1_isJump, Cond.code yX1_isJump cX1_isJump 1 (some .boolean), Cond.methodLink RX1 87 yX1_stores, Cond.instanceMethod yX1_stores, Cond.selects RX1 yX1_stores yX1_stores, Cond.code yX1_stores cX1_stores 1 (some .boolean), Cond.methodLink RX1 78 yX1_listJumpNeeds, Cond.instanceMethod yX1_listJumpNeeds, Cond.selects RX1 yX1_listJumpNeeds yX1_listJumpNeeds, Cond.code yX1_listJumpNeeds cX1_listJumpNeeds 1 none]
def wsX8_run_r6 : List Cond := [Cond.methodLink RX1 54 yX1_listResults, Cond.instanceMethod yX1_listResults, Cond.selects RX1 yX1_listResults yX1_listResults, Cond.code yX1_listResults cX1_listResults 1 none, Cond.methodLink RX1 90 yX1_loads, Cond.instanceMethod yX1_loads, Cond.selects RX1 yX1_loads yX1_loads, Cond.code yX1_loads cX1_loads 1 (some .boolean), Cond.methodLink RX8 106 yX1_stopCode, Cond.instanceMethod yX1_stopCode, Cond.selects RX1 yX1_stopCode yX1_stopCode, Cond.code yX1_stopCode cX1_stopCode 3 (some .int), Cond.methodLink RX8 110 yX1_isJump, Cond.methodLink RX8 113 yX8_takeJump, Cond.instanceMethod yX8_takeJump, Cond.selects RX8 yX8_takeJump yX8_takeJump, Cond.code yX8_takeJump cX8_takeJump 3 none, Cond.methodLink RX8 129 yX2_goesElsewhere, Cond.static yX2_goesElsewhere, Cond.initialized RX2, Cond.code yX2_goesElsewhere cX2_goesElsewhere 2 (some .boolean), Cond.methodLink RX2 9 yX1_op, Cond.instanceMethod yX1_op, Cond.selects RX1 yX1_op yX1_op]
def wsX8_run_r7 : List Cond := [Cond.code yX1_op cX1_op 1 (some .int), Cond.methodLink RX2 15 yX1_i, Cond.instanceMethod yX1_i, Cond.selects RX1 yX1_i yX1_i, Cond.code yX1_i cX1_i 1 (some .int), Cond.methodLink RX2 18 yX1_j, Cond.instanceMethod yX1_j, Cond.selects RX1 yX1_j yX1_j, Cond.code yX1_j cX1_j 1 (some .int), Cond.methodLink RX2 21 yX6_x, Cond.instanceMethod yX6_x, Cond.selects RX6 yX6_x yX6_x, Cond.initialized RX6, Cond.code yX6_x cX6_x 2 (some .long), Cond.fieldLink RX6 9 "ScoreboardCore$Registers" "values" "[J", Cond.methodLink RX2 27 yX2_wordHolds, Cond.static yX2_wordHolds, Cond.code yX2_wordHolds cX2_wordHolds 3 (some .boolean), Cond.methodLink RX2 53 yX4_isZero, Cond.static yX4_isZero, Cond.initialized RX4, Cond.code yX4_isZero cX4_isZero 2 (some .boolean), Cond.constantLong RX4 17 (1152921504606846975), Cond.methodLink RX2 57 yX4_isNegative]
def wsX8_run_r8 : List Cond := [Cond.static yX4_isNegative, Cond.code yX4_isNegative cX4_isNegative 2 (some .boolean), Cond.methodLink RX2 33 yX6_b, Cond.instanceMethod yX6_b, Cond.selects RX6 yX6_b yX6_b, Cond.code yX6_b cX6_b 2 (some .long), Cond.methodLink RX2 36 yX2_shortsHold, Cond.static yX2_shortsHold, Cond.code yX2_shortsHold cX2_shortsHold 6 (some .boolean), Cond.methodLink RX2 60 yX4_plain, Cond.static yX4_plain, Cond.code yX4_plain cX4_plain 2 (some .long), Cond.constantLong RX4 25 (262143), Cond.methodLink RX4 19 yX4_isShortNegative, Cond.static yX4_isShortNegative, Cond.code yX4_isShortNegative cX4_isShortNegative 2 (some .boolean), Cond.constantLong RX4 15 (131071), Cond.methodLink RX2 64 yJ13_compare_74951, Cond.static yJ13_compare_74951, Cond.initialized RJ13, Cond.code yJ13_compare_74951 cJ13_compare_74951 4 (some .int), Cond.methodLink RX8 135 yX0_doJump, Cond.instanceMethod yX0_doJump, Cond.selects RX0 yX0_doJump yX0_doJump]
def wsX8_run_r9 : List Cond := [Cond.code yX0_doJump cX0_doJump 5 none, Cond.fieldLink RX0 11 "ScoreboardCore$Board" "doneCounts" "[I", Cond.methodLink RX0 69 yX1_needs, Cond.instanceMethod yX1_needs, Cond.selects RX1 yX1_needs yX1_needs, Cond.code yX1_needs cX1_needs 1 (some (.object "ScoreboardCore$RegisterList")), Cond.methodLink RX0 73 yX5_latestIn, Cond.instanceMethod yX5_latestIn, Cond.selects RX5 yX5_latestIn yX5_latestIn, Cond.code yX5_latestIn cX5_latestIn 4 (some .int), Cond.methodLink RX5 23 Lib.Math.max.name, Cond.static Lib.Math.max.name, Cond.initialized "java/lang/Math", Cond.code Lib.Math.max.name Lib.Math.max.code 2 (some .int), Cond.methodLink RX0 79 yX1_op, Cond.methodLink RX0 82 yX0_waitFor, Cond.instanceMethod yX0_waitFor, Cond.selects RX0 yX0_waitFor yX0_waitFor, Cond.code yX0_waitFor cX0_waitFor 5 (some .int), Cond.methodLink RX0 118 Lib.Math.max.name, Cond.fieldLink RX0 15 "ScoreboardCore$Board" "waitCounts" "[J", Cond.methodLink RX0 62 yX0_reach, Cond.instanceMethod yX0_reach, Cond.selects RX0 yX0_reach yX0_reach]
def wsX8_run_r10 : List Cond := [Cond.code yX0_reach cX0_reach 2 none, Cond.methodLink RX8 126 yX8_goOnBehind, Cond.instanceMethod yX8_goOnBehind, Cond.selects RX8 yX8_goOnBehind yX8_goOnBehind, Cond.code yX8_goOnBehind cX8_goOnBehind 2 none, Cond.methodLink RX8 155 yX1_parcels, Cond.methodLink RX8 71 yX8_goOnAt, Cond.instanceMethod yX8_goOnAt, Cond.selects RX8 yX8_goOnAt yX8_goOnAt, Cond.code yX8_goOnAt cX8_goOnAt 2 none, Cond.methodLink RX8 47 yX3_holds, Cond.methodLink RX8 139 yX2_target, Cond.static yX2_target, Cond.code yX2_target cX2_target 2 (some .int), Cond.constantLong RX2 43 (262143), Cond.methodLink RX2 40 yX1_constant, Cond.instanceMethod yX1_constant, Cond.selects RX1 yX1_constant yX1_constant, Cond.code yX1_constant cX1_constant 1 (some .int), Cond.methodLink RX2 45 yX4_sum, Cond.static yX4_sum, Cond.code yX4_sum cX4_sum 9 (some .long), Cond.methodLink RX8 143 yX1_op, Cond.methodLink RX8 146 yX1_constant]
def wsX8_run_r11 : List Cond := [Cond.methodLink RX8 149 yX2_wayBack, Cond.static yX2_wayBack, Cond.code yX2_wayBack cX2_wayBack 1 (some .long), Cond.constantLong RX2 51 (72057594037927936), Cond.methodLink RX8 152 yX3_storeInProgram, Cond.instanceMethod yX3_storeInProgram, Cond.selects RX3 yX3_storeInProgram yX3_storeInProgram, Cond.code yX3_storeInProgram cX3_storeInProgram 4 none, Cond.constantLong RX3 22 (1152921504606846975), Cond.methodLink RX3 30 yX3_store, Cond.instanceMethod yX3_store, Cond.selects RX3 yX3_store yX3_store, Cond.code yX3_store cX3_store 4 none, Cond.methodLink RX8 116 yX0_giveOut, Cond.instanceMethod yX0_giveOut, Cond.selects RX0 yX0_giveOut yX0_giveOut, Cond.code yX0_giveOut cX0_giveOut 3 none, Cond.methodLink RX0 48 yX1_unit, Cond.instanceMethod yX1_unit, Cond.selects RX1 yX1_unit yX1_unit, Cond.code yX1_unit cX1_unit 1 (some .int), Cond.methodLink RX0 54 yX0_givenOutAt, Cond.instanceMethod yX0_givenOutAt, Cond.selects RX0 yX0_givenOutAt yX0_givenOutAt]
def wsX8_run_r12 : List Cond := [Cond.code yX0_givenOutAt cX0_givenOutAt 5 (some .int), Cond.methodLink RX0 86 Lib.Math.min.name, Cond.static Lib.Math.min.name, Cond.code Lib.Math.min.name Lib.Math.min.code 2 (some .int), Cond.methodLink RX0 92 yX1_results, Cond.instanceMethod yX1_results, Cond.selects RX1 yX1_results yX1_results, Cond.code yX1_results cX1_results 1 (some (.object "ScoreboardCore$RegisterList")), Cond.methodLink RX0 58 yX0_occupyUnit, Cond.instanceMethod yX0_occupyUnit, Cond.selects RX0 yX0_occupyUnit yX0_occupyUnit, Cond.code yX0_occupyUnit cX0_occupyUnit 6 none, Cond.fieldLink RX0 98 "ScoreboardCore$Board" "UNIT_CYCLES" "[I", Cond.methodLink RX0 95 yX0_unitFreeAt, Cond.instanceMethod yX0_unitFreeAt, Cond.selects RX0 yX0_unitFreeAt yX0_unitFreeAt, Cond.code yX0_unitFreeAt cX0_unitFreeAt 4 (some .int), Cond.methodLink RX0 101 yX0_endsAt, Cond.instanceMethod yX0_endsAt, Cond.selects RX0 yX0_endsAt yX0_endsAt, Cond.code yX0_endsAt cX0_endsAt 4 (some .int), Cond.methodLink RX0 108 yX1_loads, Cond.methodLink RX0 112 yX1_stores, Cond.methodLink RX0 105 yX5_raiseIn]
def wsX8_run_r13 : List Cond := [Cond.instanceMethod yX5_raiseIn, Cond.selects RX5 yX5_raiseIn yX5_raiseIn, Cond.code yX5_raiseIn cX5_raiseIn 5 none, Cond.methodLink RX0 115 yX1_i, Cond.methodLink RX0 66 yX1_parcels, Cond.methodLink RX8 120 yX7_apply, Cond.static yX7_apply, Cond.initialized RX7, Cond.code yX7_apply cX7_apply 3 none, Cond.methodLink RX7 9 yX1_unit, Cond.methodLink RX7 15 yX1_i, Cond.methodLink RX7 18 yX1_op, Cond.methodLink RX7 21 yX1_j, Cond.methodLink RX7 24 yX6_x, Cond.methodLink RX7 30 yX1_k, Cond.instanceMethod yX1_k, Cond.selects RX1 yX1_k yX1_k, Cond.code yX1_k cX1_k 1 (some .int), Cond.methodLink RX7 33 yX7_logic, Cond.static yX7_logic, Cond.code yX7_logic cX7_logic 5 (some .long), Cond.constantLong RX7 60 (-1), Cond.methodLink RX7 39 yX6_set, Cond.instanceMethod yX6_set]
def wsX8_run_r14 : List Cond := [Cond.selects RX6 yX6_set yX6_set, Cond.code yX6_set cX6_set 4 none, Cond.constantLong RX6 15 (1152921504606846975), Cond.constantLong RX6 17 (262143), Cond.methodLink RX7 43 yX7_shift, Cond.static yX7_shift, Cond.code yX7_shift cX7_shift 2 (some .long), Cond.methodLink RX7 62 yX1_jk, Cond.instanceMethod yX1_jk, Cond.selects RX1 yX1_jk yX1_jk, Cond.code yX1_jk cX1_jk 1 (some .int), Cond.methodLink RX7 65 yX4_turnedRoundLeft, Cond.static yX4_turnedRoundLeft, Cond.code yX4_turnedRoundLeft cX4_turnedRoundLeft 4 (some .long), Cond.methodLink RX7 71 yX4_shiftedRight, Cond.static yX4_shiftedRight, Cond.code yX4_shiftedRight cX4_shiftedRight 5 (some .long), Cond.constantLong RX4 30 (-1152921504606846976), Cond.methodLink RX4 32 Lib.Math.min.name, Cond.methodLink RX4 27 yX4_isNegative, Cond.methodLink RX7 74 yX6_b, Cond.methodLink RX7 77 yX7_shiftBy, Cond.static yX7_shiftBy, Cond.code yX7_shiftBy cX7_shiftBy 7 (some .long)]
def wsX8_run_r15 : List Cond := [Cond.methodLink RX7 84 yX4_isShortNegative, Cond.methodLink RX7 81 yX4_highestBits, Cond.static yX4_highestBits, Cond.code yX4_highestBits cX4_highestBits 1 (some .long), Cond.methodLink RX7 47 yX7_wordSum, Cond.static yX7_wordSum, Cond.code yX7_wordSum cX7_wordSum 5 (some .long), Cond.constantLong RX7 88 (1152921504606846975), Cond.methodLink RX7 90 yX4_sum, Cond.methodLink RX7 94 yX4_difference, Cond.static yX4_difference, Cond.code yX4_difference cX4_difference 6 (some .long), Cond.methodLink RX4 9 yX4_sum, Cond.methodLink RX7 50 yJ13_bitCount_95d88, Cond.static yJ13_bitCount_95d88, Cond.code yJ13_bitCount_95d88 cJ13_bitCount_95d88 2 (some .int), Cond.constantLong RJ13 314 (6148914691236517205), Cond.constantLong RJ13 316 (3689348814741910323), Cond.constantLong RJ13 318 (1085102592571150095), Cond.methodLink RX7 56 yX7_applyAddress, Cond.static yX7_applyAddress, Cond.code yX7_applyAddress cX7_applyAddress 6 none, Cond.methodLink RX7 97 yX7_shortSum, Cond.static yX7_shortSum]
def wsX8_run_r16 : List Cond := [Cond.code yX7_shortSum cX7_shortSum 10 (some .long), Cond.constantLong RX7 126 (262143), Cond.methodLink RX7 123 yX6_a, Cond.instanceMethod yX6_a, Cond.selects RX6 yX6_a yX6_a, Cond.code yX6_a cX6_a 2 (some .long), Cond.methodLink RX7 128 yX1_constant, Cond.methodLink RX7 100 yX7_reachMemory, Cond.static yX7_reachMemory, Cond.code yX7_reachMemory cX7_reachMemory 4 none, Cond.methodLink RX7 108 yX1_loads, Cond.methodLink RX7 112 yX3_load, Cond.instanceMethod yX3_load, Cond.selects RX3 yX3_load yX3_load, Cond.code yX3_load cX3_load 2 (some .long), Cond.methodLink RX7 117 yX1_stores, Cond.methodLink RX7 120 yX3_store, Cond.methodLink RX7 104 yX4_extended, Cond.static yX4_extended, Cond.code yX4_extended cX4_extended 2 (some .long), Cond.constantLong RX4 23 (1152921504606584832), Cond.methodLink RX8 85 yX0_countCycles, Cond.instanceMethod yX0_countCycles, Cond.selects RX0 yX0_countCycles yX0_countCycles]
def wsX8_run_r17 : List Cond := [Cond.code yX0_countCycles cX0_countCycles 1 none, Cond.fieldLink RX0 28 "ScoreboardCore$Board" "counted" "J"]
def wsX8_run : List Cond := .code yX8_run cX8_run 4 (some .int) :: ((wsX8_run_r1 ++ (wsX8_run_r2 ++ (wsX8_run_r3 ++ (wsX8_run_r4 ++ (wsX8_run_r5 ++ (wsX8_run_r6 ++ (wsX8_run_r7 ++ (wsX8_run_r8 ++ (wsX8_run_r9 ++ (wsX8_run_r10 ++ (wsX8_run_r11 ++ (wsX8_run_r12 ++ (wsX8_run_r13 ++ (wsX8_run_r14 ++ (wsX8_run_r15 ++ (wsX8_run_r16 ++ wsX8_run_r17)))))))))))))))) ++ wsX80 ++ wsX30 ++ wsX00 ++ wsX10 ++ wsX50 ++ wsX60 ++ (vx_at0 RX8 70 "java/lang/IllegalArgumentException" ["java/lang/RuntimeException", "java/lang/Exception"]).filter goodWord)
def wsX8_stopped : List Cond := .code yX8_stopped cX8_stopped 1 (some .int) :: ([.fieldLink RX8 44 "ScoreboardCore" "stop" "I"] ++ wsX80)
def wsX8_place : List Cond := .code yX8_place cX8_place 1 (some .int) :: ([.fieldLink RX8 37 "ScoreboardCore" "word" "I", .fieldLink RX8 41 "ScoreboardCore" "parcel" "I"] ++ wsX80)
def wsX8_cycles : List Cond := .code yX8_cycles cX8_cycles 1 (some .long) :: ([.fieldLink RX8 26 "ScoreboardCore" "board" "LScoreboardCore$Board;", .methodLink RX8 88 yX0_cyclesCounted, .instanceMethod yX0_cyclesCounted, .selects RX0 yX0_cyclesCounted yX0_cyclesCounted, .initialized RX0, .code yX0_cyclesCounted cX0_cyclesCounted 1 (some .long), .fieldLink RX0 28 "ScoreboardCore$Board" "counted" "J"] ++ wsX80 ++ wsX00)
def wsX8_done : List Cond := .code yX8_done cX8_done 2 (some .int) :: ([.classLink RX8 68 "java/lang/IllegalArgumentException", .initialized "java/lang/IllegalArgumentException", .fieldLink RX8 26 "ScoreboardCore" "board" "LScoreboardCore$Board;", .methodLink RX8 92 yX0_doneBy, .instanceMethod yX0_doneBy, .selects RX0 yX0_doneBy yX0_doneBy, .initialized RX0, .code yX0_doneBy cX0_doneBy 2 (some .int), .fieldLink RX0 11 "ScoreboardCore$Board" "doneCounts" "[I"] ++ wsX80 ++ wsX00 ++ (vx_at0 RX8 70 "java/lang/IllegalArgumentException" ["java/lang/RuntimeException", "java/lang/Exception"]).filter goodWord)
def wsX8_waited : List Cond := .code yX8_waited cX8_waited 2 (some .long) :: ([.classLink RX8 68 "java/lang/IllegalArgumentException", .initialized "java/lang/IllegalArgumentException", .fieldLink RX8 26 "ScoreboardCore" "board" "LScoreboardCore$Board;", .methodLink RX8 96 yX0_waitedFor, .instanceMethod yX0_waitedFor, .selects RX0 yX0_waitedFor yX0_waitedFor, .initialized RX0, .code yX0_waitedFor cX0_waitedFor 2 (some .long), .fieldLink RX0 15 "ScoreboardCore$Board" "waitCounts" "[J"] ++ wsX80 ++ wsX00 ++ (vx_at0 RX8 70 "java/lang/IllegalArgumentException" ["java/lang/RuntimeException", "java/lang/Exception"]).filter goodWord)
def wsX9_init : List Cond := .code yX9_init cX9_init 1 none :: ([.methodLink RX9 1 objectInit, .instanceMethod objectInit, .code objectInit ⟨#[0xb1]⟩ 1 none, .arrayClass .long, .fieldLink RX9 7 "ScoreboardCoreModel" "memory" "[J", .fieldLink RX9 13 "ScoreboardCoreModel" "program" "[J", .fieldLink RX9 16 "ScoreboardCoreModel" "\x72" "[J", .fieldLink RX9 19 "ScoreboardCoreModel" "stop" "I", .arrayClass .int, .fieldLink RX9 23 "ScoreboardCoreModel" "done" "[I", .fieldLink RX9 27 "ScoreboardCoreModel" "waited" "[J", .fieldLink RX9 30 "ScoreboardCoreModel" "free" "[J", .fieldLink RX9 33 "ScoreboardCoreModel" "read" "[J", .fieldLink RX9 36 "ScoreboardCoreModel" "unitFree" "[J"] ++ wsX90)
def wsX9_thrown : List Cond := .code yX9_thrown cX9_thrown 1 (some .int) :: ([.fieldLink RX9 39 "ScoreboardCoreModel" "thrown" "I"] ++ wsX90)
def wsX9_write : List Cond := .code yX9_write cX9_write 6 (some .long) :: ([.fieldLink RX9 39 "ScoreboardCoreModel" "thrown" "I", .fieldLink RX9 7 "ScoreboardCoreModel" "memory" "[J", .constantLong RX9 42 (1152921504606846975)] ++ wsX90)
def wsX9_read : List Cond := .code yX9_read cX9_read 2 (some .long) :: ([.fieldLink RX9 39 "ScoreboardCoreModel" "thrown" "I", .fieldLink RX9 7 "ScoreboardCoreModel" "memory" "[J"] ++ wsX90)
def wsX9_register : List Cond := .code yX9_register cX9_register 2 (some .long) :: ([.fieldLink RX9 39 "ScoreboardCoreModel" "thrown" "I", .fieldLink RX9 16 "ScoreboardCoreModel" "\x72" "[J"] ++ wsX90)
def wsX9_set : List Cond := .code yX9_set cX9_set 4 none :: ([.fieldLink RX9 16 "ScoreboardCoreModel" "\x72" "[J", .constantLong RX9 42 (1152921504606846975), .constantLong RX9 44 (262143)] ++ wsX90)
def wsX9_put : List Cond := .code yX9_put cX9_put 4 none :: ([.fieldLink RX9 39 "ScoreboardCoreModel" "thrown" "I", .methodLink RX9 46 yX9_set, .instanceMethod yX9_set, .selects RX9 yX9_set yX9_set, .initialized RX9, .code yX9_set cX9_set 4 none, .fieldLink RX9 16 "ScoreboardCoreModel" "\x72" "[J", .constantLong RX9 42 (1152921504606846975), .constantLong RX9 44 (262143)] ++ wsX90)
def wsX9_start : List Cond := .code yX9_start cX9_start 2 none :: ([.fieldLink RX9 39 "ScoreboardCoreModel" "thrown" "I", .fieldLink RX9 50 "ScoreboardCoreModel" "word" "I", .fieldLink RX9 53 "ScoreboardCoreModel" "parcel" "I", .fieldLink RX9 19 "ScoreboardCoreModel" "stop" "I"] ++ wsX90)
def wsX9_sum : List Cond := .code yX9_sum cX9_sum 8 (some .long) :: ([])
def wsX9_less : List Cond := .code yX9_less cX9_less 6 (some .long) :: ([.methodLink RX9 56 yX9_sum, .static yX9_sum, .initialized RX9, .code yX9_sum cX9_sum 8 (some .long)])
def wsX9_signed : List Cond := .code yX9_signed cX9_signed 4 (some .long) :: ([.constantLong RX9 60 (2)])
def wsX9_extended : List Cond := .code yX9_extended cX9_extended 2 (some .long) :: ([.constantLong RX9 62 (131071), .constantLong RX9 64 (1152921504606584832)])
def wsX9_round : List Cond := .code yX9_round cX9_round 6 (some .long) :: ([.constantLong RX9 42 (1152921504606846975)])
def wsX9_right : List Cond := .code yX9_right cX9_right 6 (some .long) :: ([.constantLong RX9 66 (576460752303423488)])
def wsX9_hasNumber : List Cond := .code yX9_hasNumber cX9_hasNumber 1 (some .boolean) :: ([])
def wsX9_isUnknown : List Cond := .code yX9_isUnknown cX9_isUnknown 2 (some .boolean) :: ([.fieldLink RX9 68 "ScoreboardCoreModel" "op" "I", .fieldLink RX9 71 "ScoreboardCoreModel" "i" "I", .fieldLink RX9 74 "ScoreboardCoreModel" "size" "I", .fieldLink RX9 53 "ScoreboardCoreModel" "parcel" "I"] ++ wsX90)
def wsX9_parcelAt : List Cond := .code yX9_parcelAt cX9_parcelAt 2 (some .int) :: ([.fieldLink RX9 13 "ScoreboardCoreModel" "program" "[J", .fieldLink RX9 50 "ScoreboardCoreModel" "word" "I", .constantLong RX9 77 (32767)] ++ wsX90)
def wsX9_take : List Cond := .code yX9_take cX9_take 2 none :: ([.fieldLink RX9 53 "ScoreboardCoreModel" "parcel" "I", .fieldLink RX9 68 "ScoreboardCoreModel" "op" "I", .fieldLink RX9 71 "ScoreboardCoreModel" "i" "I", .fieldLink RX9 83 "ScoreboardCoreModel" "j" "I", .fieldLink RX9 86 "ScoreboardCoreModel" "k" "I", .fieldLink RX9 74 "ScoreboardCoreModel" "size" "I", .fieldLink RX9 93 "ScoreboardCoreModel" "number" "I", .methodLink RX9 79 yX9_parcelAt, .instanceMethod yX9_parcelAt, .selects RX9 yX9_parcelAt yX9_parcelAt, .initialized RX9, .code yX9_parcelAt cX9_parcelAt 2 (some .int), .fieldLink RX9 13 "ScoreboardCoreModel" "program" "[J", .fieldLink RX9 50 "ScoreboardCoreModel" "word" "I", .constantLong RX9 77 (32767), .methodLink RX9 89 yX9_hasNumber, .static yX9_hasNumber, .code yX9_hasNumber cX9_hasNumber 1 (some .boolean)] ++ wsX90)
def wsX9_need : List Cond := .code yX9_need cX9_need 2 none :: ([.fieldLink RX9 96 "ScoreboardCoreModel" "needs" "I"] ++ wsX90)
def wsX9_give : List Cond := .code yX9_give cX9_give 2 none :: ([.fieldLink RX9 99 "ScoreboardCoreModel" "gives" "I"] ++ wsX90)
def wsX9_isMemory : List Cond := .code yX9_isMemory cX9_isMemory 1 (some .boolean) :: ([.fieldLink RX9 68 "ScoreboardCoreModel" "op" "I", .fieldLink RX9 71 "ScoreboardCoreModel" "i" "I"] ++ wsX90)
def wsX9_find : List Cond := .code yX9_find cX9_find 3 none :: ([.fieldLink RX9 96 "ScoreboardCoreModel" "needs" "I", .fieldLink RX9 99 "ScoreboardCoreModel" "gives" "I", .fieldLink RX9 68 "ScoreboardCoreModel" "op" "I", .fieldLink RX9 83 "ScoreboardCoreModel" "j" "I", .fieldLink RX9 86 "ScoreboardCoreModel" "k" "I", .fieldLink RX9 71 "ScoreboardCoreModel" "i" "I", .methodLink RX9 102 yX9_need, .instanceMethod yX9_need, .selects RX9 yX9_need yX9_need, .initialized RX9, .code yX9_need cX9_need 2 none, .methodLink RX9 106 yX9_give, .instanceMethod yX9_give, .selects RX9 yX9_give yX9_give, .code yX9_give cX9_give 2 none, .methodLink RX9 109 yX9_isMemory, .instanceMethod yX9_isMemory, .selects RX9 yX9_isMemory yX9_isMemory, .code yX9_isMemory cX9_isMemory 1 (some .boolean)] ++ wsX90)
def wsX9_mixed : List Cond := .code yX9_mixed cX9_mixed 5 (some .long) :: ([.fieldLink RX9 16 "ScoreboardCoreModel" "\x72" "[J", .fieldLink RX9 83 "ScoreboardCoreModel" "j" "I", .fieldLink RX9 86 "ScoreboardCoreModel" "k" "I", .fieldLink RX9 68 "ScoreboardCoreModel" "op" "I", .constantLong RX9 42 (1152921504606846975)] ++ wsX90)
def wsX9_shifted : List Cond := .code yX9_shifted cX9_shifted 5 (some .long) :: ([.fieldLink RX9 83 "ScoreboardCoreModel" "j" "I", .fieldLink RX9 86 "ScoreboardCoreModel" "k" "I", .fieldLink RX9 68 "ScoreboardCoreModel" "op" "I", .fieldLink RX9 16 "ScoreboardCoreModel" "\x72" "[J", .fieldLink RX9 71 "ScoreboardCoreModel" "i" "I", .constant RX9 120 (131071), .constant RX9 121 (262143), .methodLink RX9 113 yX9_round, .static yX9_round, .initialized RX9, .code yX9_round cX9_round 6 (some .long), .constantLong RX9 42 (1152921504606846975), .methodLink RX9 117 yX9_right, .static yX9_right, .code yX9_right cX9_right 6 (some .long), .constantLong RX9 66 (576460752303423488)] ++ wsX90)
def wsX9_reckoned_r1 : List Cond := [Cond.fieldLink RX9 68 "ScoreboardCoreModel" "op" "I", Cond.fieldLink RX9 16 "ScoreboardCoreModel" "\x72" "[J", Cond.fieldLink RX9 83 "ScoreboardCoreModel" "j" "I", Cond.fieldLink RX9 86 "ScoreboardCoreModel" "k" "I", Cond.constantLong RX9 42 (1152921504606846975), Cond.methodLink RX9 122 yX9_mixed, Cond.instanceMethod yX9_mixed, Cond.selects RX9 yX9_mixed yX9_mixed, Cond.initialized RX9, Cond.code yX9_mixed cX9_mixed 5 (some .long), Cond.methodLink RX9 126 yX9_shifted, Cond.instanceMethod yX9_shifted, Cond.selects RX9 yX9_shifted yX9_shifted, Cond.code yX9_shifted cX9_shifted 5 (some .long), Cond.fieldLink RX9 71 "ScoreboardCoreModel" "i" "I", Cond.constant RX9 120 (131071), Cond.constant RX9 121 (262143), Cond.methodLink RX9 113 yX9_round, Cond.static yX9_round, Cond.code yX9_round cX9_round 6 (some .long), Cond.methodLink RX9 117 yX9_right, Cond.static yX9_right, Cond.code yX9_right cX9_right 6 (some .long), Cond.constantLong RX9 66 (576460752303423488)]
def wsX9_reckoned_r2 : List Cond := [Cond.methodLink RX9 56 yX9_sum, Cond.static yX9_sum, Cond.code yX9_sum cX9_sum 8 (some .long), Cond.methodLink RX9 129 yX9_less, Cond.static yX9_less, Cond.code yX9_less cX9_less 6 (some .long)]
def wsX9_reckoned : List Cond := .code yX9_reckoned cX9_reckoned 4 (some .long) :: ((wsX9_reckoned_r1 ++ wsX9_reckoned_r2) ++ wsX90)
def wsX9_placed : List Cond := .code yX9_placed cX9_placed 6 (some .long) :: ([.fieldLink RX9 68 "ScoreboardCoreModel" "op" "I", .fieldLink RX9 16 "ScoreboardCoreModel" "\x72" "[J", .fieldLink RX9 83 "ScoreboardCoreModel" "j" "I", .constantLong RX9 44 (262143), .fieldLink RX9 93 "ScoreboardCoreModel" "number" "I", .fieldLink RX9 86 "ScoreboardCoreModel" "k" "I", .methodLink RX9 129 yX9_less, .static yX9_less, .initialized RX9, .code yX9_less cX9_less 6 (some .long), .methodLink RX9 56 yX9_sum, .static yX9_sum, .code yX9_sum cX9_sum 8 (some .long)] ++ wsX90)
def wsX9_act_r1 : List Cond := [Cond.fieldLink RX9 68 "ScoreboardCoreModel" "op" "I", Cond.fieldLink RX9 71 "ScoreboardCoreModel" "i" "I", Cond.constantLong RX9 142 (512), Cond.fieldLink RX9 7 "ScoreboardCoreModel" "memory" "[J", Cond.fieldLink RX9 16 "ScoreboardCoreModel" "\x72" "[J", Cond.methodLink RX9 132 yX9_reckoned, Cond.instanceMethod yX9_reckoned, Cond.selects RX9 yX9_reckoned yX9_reckoned, Cond.initialized RX9, Cond.code yX9_reckoned cX9_reckoned 4 (some .long), Cond.fieldLink RX9 83 "ScoreboardCoreModel" "j" "I", Cond.fieldLink RX9 86 "ScoreboardCoreModel" "k" "I", Cond.constantLong RX9 42 (1152921504606846975), Cond.methodLink RX9 122 yX9_mixed, Cond.instanceMethod yX9_mixed, Cond.selects RX9 yX9_mixed yX9_mixed, Cond.code yX9_mixed cX9_mixed 5 (some .long), Cond.methodLink RX9 126 yX9_shifted, Cond.instanceMethod yX9_shifted, Cond.selects RX9 yX9_shifted yX9_shifted, Cond.code yX9_shifted cX9_shifted 5 (some .long), Cond.constant RX9 120 (131071), Cond.constant RX9 121 (262143), Cond.methodLink RX9 113 yX9_round]
def wsX9_act_r2 : List Cond := [Cond.static yX9_round, Cond.code yX9_round cX9_round 6 (some .long), Cond.methodLink RX9 117 yX9_right, Cond.static yX9_right, Cond.code yX9_right cX9_right 6 (some .long), Cond.constantLong RX9 66 (576460752303423488), Cond.methodLink RX9 56 yX9_sum, Cond.static yX9_sum, Cond.code yX9_sum cX9_sum 8 (some .long), Cond.methodLink RX9 129 yX9_less, Cond.static yX9_less, Cond.code yX9_less cX9_less 6 (some .long), Cond.methodLink RX9 46 yX9_set, Cond.instanceMethod yX9_set, Cond.selects RX9 yX9_set yX9_set, Cond.code yX9_set cX9_set 4 none, Cond.constantLong RX9 44 (262143), Cond.methodLink RX9 135 yX9_placed, Cond.instanceMethod yX9_placed, Cond.selects RX9 yX9_placed yX9_placed, Cond.code yX9_placed cX9_placed 6 (some .long), Cond.fieldLink RX9 93 "ScoreboardCoreModel" "number" "I", Cond.methodLink RX9 138 yX9_extended, Cond.static yX9_extended]
def wsX9_act_r3 : List Cond := [Cond.code yX9_extended cX9_extended 2 (some .long), Cond.constantLong RX9 62 (131071), Cond.constantLong RX9 64 (1152921504606584832)]
def wsX9_act : List Cond := .code yX9_act cX9_act 4 none :: ((wsX9_act_r1 ++ (wsX9_act_r2 ++ wsX9_act_r3)) ++ wsX90)
def wsX9_later : List Cond := .code yX9_later cX9_later 4 (some .long) :: ([])
def wsX9_freeFrom : List Cond := .code yX9_freeFrom cX9_freeFrom 5 (some .long) :: ([.fieldLink RX9 30 "ScoreboardCoreModel" "free" "[J", .methodLink RX9 144 yX9_later, .static yX9_later, .initialized RX9, .code yX9_later cX9_later 4 (some .long)] ++ wsX90)
def wsX9_unit : List Cond := .code yX9_unit cX9_unit 1 (some .int) :: ([.fieldLink RX9 68 "ScoreboardCoreModel" "op" "I"] ++ wsX90)
def wsX9_board_r1 : List Cond := [Cond.fieldLink RX9 36 "ScoreboardCoreModel" "unitFree" "[J", Cond.fieldLink RX9 152 "ScoreboardCoreModel" "earliest" "J", Cond.fieldLink RX9 99 "ScoreboardCoreModel" "gives" "I", Cond.fieldLink RX9 27 "ScoreboardCoreModel" "waited" "[J", Cond.fieldLink RX9 96 "ScoreboardCoreModel" "needs" "I", Cond.constantLong RX9 160 (8), Cond.constantLong RX9 162 (3), Cond.fieldLink RX9 33 "ScoreboardCoreModel" "read" "[J", Cond.fieldLink RX9 164 "ScoreboardCoreModel" "memoryEnd" "J", Cond.fieldLink RX9 30 "ScoreboardCoreModel" "free" "[J", Cond.fieldLink RX9 167 "ScoreboardCoreModel" "last" "J", Cond.fieldLink RX9 71 "ScoreboardCoreModel" "i" "I", Cond.constantLong RX9 170 (6), Cond.constantLong RX9 172 (5), Cond.fieldLink RX9 23 "ScoreboardCoreModel" "done" "[I", Cond.fieldLink RX9 74 "ScoreboardCoreModel" "size" "I", Cond.methodLink RX9 148 yX9_unit, Cond.instanceMethod yX9_unit, Cond.selects RX9 yX9_unit yX9_unit, Cond.initialized RX9, Cond.code yX9_unit cX9_unit 1 (some .int), Cond.fieldLink RX9 68 "ScoreboardCoreModel" "op" "I", Cond.methodLink RX9 156 yX9_freeFrom, Cond.instanceMethod yX9_freeFrom]
def wsX9_board_r2 : List Cond := [Cond.selects RX9 yX9_freeFrom yX9_freeFrom, Cond.code yX9_freeFrom cX9_freeFrom 5 (some .long), Cond.methodLink RX9 144 yX9_later, Cond.static yX9_later, Cond.code yX9_later cX9_later 4 (some .long), Cond.methodLink RX9 109 yX9_isMemory, Cond.instanceMethod yX9_isMemory, Cond.selects RX9 yX9_isMemory yX9_isMemory, Cond.code yX9_isMemory cX9_isMemory 1 (some .boolean)]
def wsX9_board : List Cond := .code yX9_board cX9_board 15 none :: ((wsX9_board_r1 ++ wsX9_board_r2) ++ wsX90)
def wsX9_holds : List Cond := .code yX9_holds cX9_holds 5 (some .boolean) :: ([.fieldLink RX9 68 "ScoreboardCoreModel" "op" "I", .fieldLink RX9 16 "ScoreboardCoreModel" "\x72" "[J", .fieldLink RX9 83 "ScoreboardCoreModel" "j" "I", .constantLong RX9 42 (1152921504606846975), .constantLong RX9 174 (576460752303423487), .fieldLink RX9 71 "ScoreboardCoreModel" "i" "I", .constantLong RX9 44 (262143), .methodLink RX9 176 yX9_signed, .static yX9_signed, .initialized RX9, .code yX9_signed cX9_signed 4 (some .long), .constantLong RX9 60 (2)] ++ wsX90)
def wsX9_goOn : List Cond := .code yX9_goOn cX9_goOn 1 none :: ([.fieldLink RX9 53 "ScoreboardCoreModel" "parcel" "I", .fieldLink RX9 74 "ScoreboardCoreModel" "size" "I", .fieldLink RX9 50 "ScoreboardCoreModel" "word" "I"] ++ wsX90)
def wsX9_jump_r1 : List Cond := [Cond.fieldLink RX9 96 "ScoreboardCoreModel" "needs" "I", Cond.fieldLink RX9 68 "ScoreboardCoreModel" "op" "I", Cond.fieldLink RX9 71 "ScoreboardCoreModel" "i" "I", Cond.fieldLink RX9 83 "ScoreboardCoreModel" "j" "I", Cond.fieldLink RX9 152 "ScoreboardCoreModel" "earliest" "J", Cond.fieldLink RX9 164 "ScoreboardCoreModel" "memoryEnd" "J", Cond.fieldLink RX9 27 "ScoreboardCoreModel" "waited" "[J", Cond.fieldLink RX9 167 "ScoreboardCoreModel" "last" "J", Cond.fieldLink RX9 23 "ScoreboardCoreModel" "done" "[I", Cond.constantLong RX9 160 (8), Cond.constantLong RX9 182 (4), Cond.fieldLink RX9 16 "ScoreboardCoreModel" "\x72" "[J", Cond.fieldLink RX9 93 "ScoreboardCoreModel" "number" "I", Cond.constantLong RX9 44 (262143), Cond.fieldLink RX9 7 "ScoreboardCoreModel" "memory" "[J", Cond.constantLong RX9 187 (72057594037927936), Cond.fieldLink RX9 50 "ScoreboardCoreModel" "word" "I", Cond.fieldLink RX9 13 "ScoreboardCoreModel" "program" "[J", Cond.fieldLink RX9 53 "ScoreboardCoreModel" "parcel" "I", Cond.methodLink RX9 102 yX9_need, Cond.instanceMethod yX9_need, Cond.selects RX9 yX9_need yX9_need, Cond.initialized RX9, Cond.code yX9_need cX9_need 2 none]
def wsX9_jump_r2 : List Cond := [Cond.methodLink RX9 156 yX9_freeFrom, Cond.instanceMethod yX9_freeFrom, Cond.selects RX9 yX9_freeFrom yX9_freeFrom, Cond.code yX9_freeFrom cX9_freeFrom 5 (some .long), Cond.fieldLink RX9 30 "ScoreboardCoreModel" "free" "[J", Cond.methodLink RX9 144 yX9_later, Cond.static yX9_later, Cond.code yX9_later cX9_later 4 (some .long), Cond.methodLink RX9 179 yX9_holds, Cond.instanceMethod yX9_holds, Cond.selects RX9 yX9_holds yX9_holds, Cond.code yX9_holds cX9_holds 5 (some .boolean), Cond.constantLong RX9 42 (1152921504606846975), Cond.constantLong RX9 174 (576460752303423487), Cond.methodLink RX9 176 yX9_signed, Cond.static yX9_signed, Cond.code yX9_signed cX9_signed 4 (some .long), Cond.constantLong RX9 60 (2), Cond.methodLink RX9 184 yX9_goOn, Cond.instanceMethod yX9_goOn, Cond.selects RX9 yX9_goOn yX9_goOn, Cond.code yX9_goOn cX9_goOn 1 none, Cond.fieldLink RX9 74 "ScoreboardCoreModel" "size" "I", Cond.methodLink RX9 56 yX9_sum]
def wsX9_jump_r3 : List Cond := [Cond.static yX9_sum, Cond.code yX9_sum cX9_sum 8 (some .long)]
def wsX9_jump : List Cond := .code yX9_jump cX9_jump 5 none :: ((wsX9_jump_r1 ++ (wsX9_jump_r2 ++ wsX9_jump_r3)) ++ wsX90)
def wsX9_halt : List Cond := .code yX9_halt cX9_halt 2 none :: ([.fieldLink RX9 19 "ScoreboardCoreModel" "stop" "I"] ++ wsX90)
def wsX9_one_r1 : List Cond := [Cond.fieldLink RX9 50 "ScoreboardCoreModel" "word" "I", Cond.fieldLink RX9 68 "ScoreboardCoreModel" "op" "I", Cond.fieldLink RX9 167 "ScoreboardCoreModel" "last" "J", Cond.fieldLink RX9 152 "ScoreboardCoreModel" "earliest" "J", Cond.methodLink RX9 189 yX9_halt, Cond.instanceMethod yX9_halt, Cond.selects RX9 yX9_halt yX9_halt, Cond.initialized RX9, Cond.code yX9_halt cX9_halt 2 none, Cond.fieldLink RX9 19 "ScoreboardCoreModel" "stop" "I", Cond.methodLink RX9 192 yX9_take, Cond.instanceMethod yX9_take, Cond.selects RX9 yX9_take yX9_take, Cond.code yX9_take cX9_take 2 none, Cond.fieldLink RX9 53 "ScoreboardCoreModel" "parcel" "I", Cond.fieldLink RX9 71 "ScoreboardCoreModel" "i" "I", Cond.fieldLink RX9 83 "ScoreboardCoreModel" "j" "I", Cond.fieldLink RX9 86 "ScoreboardCoreModel" "k" "I", Cond.fieldLink RX9 74 "ScoreboardCoreModel" "size" "I", Cond.fieldLink RX9 93 "ScoreboardCoreModel" "number" "I", Cond.methodLink RX9 79 yX9_parcelAt, Cond.instanceMethod yX9_parcelAt, Cond.selects RX9 yX9_parcelAt yX9_parcelAt, Cond.code yX9_parcelAt cX9_parcelAt 2 (some .int)]
def wsX9_one_r2 : List Cond := [Cond.fieldLink RX9 13 "ScoreboardCoreModel" "program" "[J", Cond.constantLong RX9 77 (32767), Cond.methodLink RX9 89 yX9_hasNumber, Cond.static yX9_hasNumber, Cond.code yX9_hasNumber cX9_hasNumber 1 (some .boolean), Cond.methodLink RX9 195 yX9_isUnknown, Cond.instanceMethod yX9_isUnknown, Cond.selects RX9 yX9_isUnknown yX9_isUnknown, Cond.code yX9_isUnknown cX9_isUnknown 2 (some .boolean), Cond.methodLink RX9 198 yX9_jump, Cond.instanceMethod yX9_jump, Cond.selects RX9 yX9_jump yX9_jump, Cond.code yX9_jump cX9_jump 5 none, Cond.fieldLink RX9 96 "ScoreboardCoreModel" "needs" "I", Cond.fieldLink RX9 164 "ScoreboardCoreModel" "memoryEnd" "J", Cond.fieldLink RX9 27 "ScoreboardCoreModel" "waited" "[J", Cond.fieldLink RX9 23 "ScoreboardCoreModel" "done" "[I", Cond.constantLong RX9 160 (8), Cond.constantLong RX9 182 (4), Cond.fieldLink RX9 16 "ScoreboardCoreModel" "\x72" "[J", Cond.constantLong RX9 44 (262143), Cond.fieldLink RX9 7 "ScoreboardCoreModel" "memory" "[J", Cond.constantLong RX9 187 (72057594037927936), Cond.methodLink RX9 102 yX9_need]
def wsX9_one_r3 : List Cond := [Cond.instanceMethod yX9_need, Cond.selects RX9 yX9_need yX9_need, Cond.code yX9_need cX9_need 2 none, Cond.methodLink RX9 156 yX9_freeFrom, Cond.instanceMethod yX9_freeFrom, Cond.selects RX9 yX9_freeFrom yX9_freeFrom, Cond.code yX9_freeFrom cX9_freeFrom 5 (some .long), Cond.fieldLink RX9 30 "ScoreboardCoreModel" "free" "[J", Cond.methodLink RX9 144 yX9_later, Cond.static yX9_later, Cond.code yX9_later cX9_later 4 (some .long), Cond.methodLink RX9 179 yX9_holds, Cond.instanceMethod yX9_holds, Cond.selects RX9 yX9_holds yX9_holds, Cond.code yX9_holds cX9_holds 5 (some .boolean), Cond.constantLong RX9 42 (1152921504606846975), Cond.constantLong RX9 174 (576460752303423487), Cond.methodLink RX9 176 yX9_signed, Cond.static yX9_signed, Cond.code yX9_signed cX9_signed 4 (some .long), Cond.constantLong RX9 60 (2), Cond.methodLink RX9 184 yX9_goOn, Cond.instanceMethod yX9_goOn, Cond.selects RX9 yX9_goOn yX9_goOn]
def wsX9_one_r4 : List Cond := [Cond.code yX9_goOn cX9_goOn 1 none, Cond.methodLink RX9 56 yX9_sum, Cond.static yX9_sum, Cond.code yX9_sum cX9_sum 8 (some .long), Cond.methodLink RX9 201 yX9_find, Cond.instanceMethod yX9_find, Cond.selects RX9 yX9_find yX9_find, Cond.code yX9_find cX9_find 3 none, Cond.fieldLink RX9 99 "ScoreboardCoreModel" "gives" "I", Cond.methodLink RX9 106 yX9_give, Cond.instanceMethod yX9_give, Cond.selects RX9 yX9_give yX9_give, Cond.code yX9_give cX9_give 2 none, Cond.methodLink RX9 109 yX9_isMemory, Cond.instanceMethod yX9_isMemory, Cond.selects RX9 yX9_isMemory yX9_isMemory, Cond.code yX9_isMemory cX9_isMemory 1 (some .boolean), Cond.methodLink RX9 204 yX9_board, Cond.instanceMethod yX9_board, Cond.selects RX9 yX9_board yX9_board, Cond.code yX9_board cX9_board 15 none, Cond.fieldLink RX9 36 "ScoreboardCoreModel" "unitFree" "[J", Cond.constantLong RX9 162 (3), Cond.fieldLink RX9 33 "ScoreboardCoreModel" "read" "[J"]
def wsX9_one_r5 : List Cond := [Cond.constantLong RX9 170 (6), Cond.constantLong RX9 172 (5), Cond.methodLink RX9 148 yX9_unit, Cond.instanceMethod yX9_unit, Cond.selects RX9 yX9_unit yX9_unit, Cond.code yX9_unit cX9_unit 1 (some .int), Cond.methodLink RX9 207 yX9_act, Cond.instanceMethod yX9_act, Cond.selects RX9 yX9_act yX9_act, Cond.code yX9_act cX9_act 4 none, Cond.constantLong RX9 142 (512), Cond.methodLink RX9 132 yX9_reckoned, Cond.instanceMethod yX9_reckoned, Cond.selects RX9 yX9_reckoned yX9_reckoned, Cond.code yX9_reckoned cX9_reckoned 4 (some .long), Cond.methodLink RX9 122 yX9_mixed, Cond.instanceMethod yX9_mixed, Cond.selects RX9 yX9_mixed yX9_mixed, Cond.code yX9_mixed cX9_mixed 5 (some .long), Cond.methodLink RX9 126 yX9_shifted, Cond.instanceMethod yX9_shifted, Cond.selects RX9 yX9_shifted yX9_shifted, Cond.code yX9_shifted cX9_shifted 5 (some .long), Cond.constant RX9 120 (131071)]
def wsX9_one_r6 : List Cond := [Cond.constant RX9 121 (262143), Cond.methodLink RX9 113 yX9_round, Cond.static yX9_round, Cond.code yX9_round cX9_round 6 (some .long), Cond.methodLink RX9 117 yX9_right, Cond.static yX9_right, Cond.code yX9_right cX9_right 6 (some .long), Cond.constantLong RX9 66 (576460752303423488), Cond.methodLink RX9 129 yX9_less, Cond.static yX9_less, Cond.code yX9_less cX9_less 6 (some .long), Cond.methodLink RX9 46 yX9_set, Cond.instanceMethod yX9_set, Cond.selects RX9 yX9_set yX9_set, Cond.code yX9_set cX9_set 4 none, Cond.methodLink RX9 135 yX9_placed, Cond.instanceMethod yX9_placed, Cond.selects RX9 yX9_placed yX9_placed, Cond.code yX9_placed cX9_placed 6 (some .long), Cond.methodLink RX9 138 yX9_extended, Cond.static yX9_extended, Cond.code yX9_extended cX9_extended 2 (some .long), Cond.constantLong RX9 62 (131071), Cond.constantLong RX9 64 (1152921504606584832)]
def wsX9_one : List Cond := .code yX9_one cX9_one 1 (some .boolean) :: ((wsX9_one_r1 ++ (wsX9_one_r2 ++ (wsX9_one_r3 ++ (wsX9_one_r4 ++ (wsX9_one_r5 ++ wsX9_one_r6))))) ++ wsX90)
def wsX9_run_r1 : List Cond := [Cond.fieldLink RX9 39 "ScoreboardCoreModel" "thrown" "I", Cond.fieldLink RX9 13 "ScoreboardCoreModel" "program" "[J", Cond.fieldLink RX9 7 "ScoreboardCoreModel" "memory" "[J", Cond.fieldLink RX9 30 "ScoreboardCoreModel" "free" "[J", Cond.fieldLink RX9 33 "ScoreboardCoreModel" "read" "[J", Cond.fieldLink RX9 36 "ScoreboardCoreModel" "unitFree" "[J", Cond.fieldLink RX9 164 "ScoreboardCoreModel" "memoryEnd" "J", Cond.fieldLink RX9 152 "ScoreboardCoreModel" "earliest" "J", Cond.fieldLink RX9 167 "ScoreboardCoreModel" "last" "J", Cond.fieldLink RX9 19 "ScoreboardCoreModel" "stop" "I", Cond.fieldLink RX9 213 "ScoreboardCoreModel" "cycles" "J", Cond.methodLink RX9 210 yX9_one, Cond.instanceMethod yX9_one, Cond.selects RX9 yX9_one yX9_one, Cond.initialized RX9, Cond.code yX9_one cX9_one 1 (some .boolean), Cond.fieldLink RX9 50 "ScoreboardCoreModel" "word" "I", Cond.fieldLink RX9 68 "ScoreboardCoreModel" "op" "I", Cond.methodLink RX9 189 yX9_halt, Cond.instanceMethod yX9_halt, Cond.selects RX9 yX9_halt yX9_halt, Cond.code yX9_halt cX9_halt 2 none, Cond.methodLink RX9 192 yX9_take, Cond.instanceMethod yX9_take]
def wsX9_run_r2 : List Cond := [Cond.selects RX9 yX9_take yX9_take, Cond.code yX9_take cX9_take 2 none, Cond.fieldLink RX9 53 "ScoreboardCoreModel" "parcel" "I", Cond.fieldLink RX9 71 "ScoreboardCoreModel" "i" "I", Cond.fieldLink RX9 83 "ScoreboardCoreModel" "j" "I", Cond.fieldLink RX9 86 "ScoreboardCoreModel" "k" "I", Cond.fieldLink RX9 74 "ScoreboardCoreModel" "size" "I", Cond.fieldLink RX9 93 "ScoreboardCoreModel" "number" "I", Cond.methodLink RX9 79 yX9_parcelAt, Cond.instanceMethod yX9_parcelAt, Cond.selects RX9 yX9_parcelAt yX9_parcelAt, Cond.code yX9_parcelAt cX9_parcelAt 2 (some .int), Cond.constantLong RX9 77 (32767), Cond.methodLink RX9 89 yX9_hasNumber, Cond.static yX9_hasNumber, Cond.code yX9_hasNumber cX9_hasNumber 1 (some .boolean), Cond.methodLink RX9 195 yX9_isUnknown, Cond.instanceMethod yX9_isUnknown, Cond.selects RX9 yX9_isUnknown yX9_isUnknown, Cond.code yX9_isUnknown cX9_isUnknown 2 (some .boolean), Cond.methodLink RX9 198 yX9_jump, Cond.instanceMethod yX9_jump, Cond.selects RX9 yX9_jump yX9_jump, Cond.code yX9_jump cX9_jump 5 none]
def wsX9_run_r3 : List Cond := [Cond.fieldLink RX9 96 "ScoreboardCoreModel" "needs" "I", Cond.fieldLink RX9 27 "ScoreboardCoreModel" "waited" "[J", Cond.fieldLink RX9 23 "ScoreboardCoreModel" "done" "[I", Cond.constantLong RX9 160 (8), Cond.constantLong RX9 182 (4), Cond.fieldLink RX9 16 "ScoreboardCoreModel" "\x72" "[J", Cond.constantLong RX9 44 (262143), Cond.constantLong RX9 187 (72057594037927936), Cond.methodLink RX9 102 yX9_need, Cond.instanceMethod yX9_need, Cond.selects RX9 yX9_need yX9_need, Cond.code yX9_need cX9_need 2 none, Cond.methodLink RX9 156 yX9_freeFrom, Cond.instanceMethod yX9_freeFrom, Cond.selects RX9 yX9_freeFrom yX9_freeFrom, Cond.code yX9_freeFrom cX9_freeFrom 5 (some .long), Cond.methodLink RX9 144 yX9_later, Cond.static yX9_later, Cond.code yX9_later cX9_later 4 (some .long), Cond.methodLink RX9 179 yX9_holds, Cond.instanceMethod yX9_holds, Cond.selects RX9 yX9_holds yX9_holds, Cond.code yX9_holds cX9_holds 5 (some .boolean), Cond.constantLong RX9 42 (1152921504606846975)]
def wsX9_run_r4 : List Cond := [Cond.constantLong RX9 174 (576460752303423487), Cond.methodLink RX9 176 yX9_signed, Cond.static yX9_signed, Cond.code yX9_signed cX9_signed 4 (some .long), Cond.constantLong RX9 60 (2), Cond.methodLink RX9 184 yX9_goOn, Cond.instanceMethod yX9_goOn, Cond.selects RX9 yX9_goOn yX9_goOn, Cond.code yX9_goOn cX9_goOn 1 none, Cond.methodLink RX9 56 yX9_sum, Cond.static yX9_sum, Cond.code yX9_sum cX9_sum 8 (some .long), Cond.methodLink RX9 201 yX9_find, Cond.instanceMethod yX9_find, Cond.selects RX9 yX9_find yX9_find, Cond.code yX9_find cX9_find 3 none, Cond.fieldLink RX9 99 "ScoreboardCoreModel" "gives" "I", Cond.methodLink RX9 106 yX9_give, Cond.instanceMethod yX9_give, Cond.selects RX9 yX9_give yX9_give, Cond.code yX9_give cX9_give 2 none, Cond.methodLink RX9 109 yX9_isMemory, Cond.instanceMethod yX9_isMemory, Cond.selects RX9 yX9_isMemory yX9_isMemory]
def wsX9_run_r5 : List Cond := [Cond.code yX9_isMemory cX9_isMemory 1 (some .boolean), Cond.methodLink RX9 204 yX9_board, Cond.instanceMethod yX9_board, Cond.selects RX9 yX9_board yX9_board, Cond.code yX9_board cX9_board 15 none, Cond.constantLong RX9 162 (3), Cond.constantLong RX9 170 (6), Cond.constantLong RX9 172 (5), Cond.methodLink RX9 148 yX9_unit, Cond.instanceMethod yX9_unit, Cond.selects RX9 yX9_unit yX9_unit, Cond.code yX9_unit cX9_unit 1 (some .int), Cond.methodLink RX9 207 yX9_act, Cond.instanceMethod yX9_act, Cond.selects RX9 yX9_act yX9_act, Cond.code yX9_act cX9_act 4 none, Cond.constantLong RX9 142 (512), Cond.methodLink RX9 132 yX9_reckoned, Cond.instanceMethod yX9_reckoned, Cond.selects RX9 yX9_reckoned yX9_reckoned, Cond.code yX9_reckoned cX9_reckoned 4 (some .long), Cond.methodLink RX9 122 yX9_mixed, Cond.instanceMethod yX9_mixed, Cond.selects RX9 yX9_mixed yX9_mixed]
def wsX9_run_r6 : List Cond := [Cond.code yX9_mixed cX9_mixed 5 (some .long), Cond.methodLink RX9 126 yX9_shifted, Cond.instanceMethod yX9_shifted, Cond.selects RX9 yX9_shifted yX9_shifted, Cond.code yX9_shifted cX9_shifted 5 (some .long), Cond.constant RX9 120 (131071), Cond.constant RX9 121 (262143), Cond.methodLink RX9 113 yX9_round, Cond.static yX9_round, Cond.code yX9_round cX9_round 6 (some .long), Cond.methodLink RX9 117 yX9_right, Cond.static yX9_right, Cond.code yX9_right cX9_right 6 (some .long), Cond.constantLong RX9 66 (576460752303423488), Cond.methodLink RX9 129 yX9_less, Cond.static yX9_less, Cond.code yX9_less cX9_less 6 (some .long), Cond.methodLink RX9 46 yX9_set, Cond.instanceMethod yX9_set, Cond.selects RX9 yX9_set yX9_set, Cond.code yX9_set cX9_set 4 none, Cond.methodLink RX9 135 yX9_placed, Cond.instanceMethod yX9_placed, Cond.selects RX9 yX9_placed yX9_placed]
def wsX9_run_r7 : List Cond := [Cond.code yX9_placed cX9_placed 6 (some .long), Cond.methodLink RX9 138 yX9_extended, Cond.static yX9_extended, Cond.code yX9_extended cX9_extended 2 (some .long), Cond.constantLong RX9 62 (131071), Cond.constantLong RX9 64 (1152921504606584832)]
def wsX9_run : List Cond := .code yX9_run cX9_run 3 (some .int) :: ((wsX9_run_r1 ++ (wsX9_run_r2 ++ (wsX9_run_r3 ++ (wsX9_run_r4 ++ (wsX9_run_r5 ++ (wsX9_run_r6 ++ wsX9_run_r7)))))) ++ wsX90)
def wsX9_stopped : List Cond := .code yX9_stopped cX9_stopped 1 (some .int) :: ([.fieldLink RX9 39 "ScoreboardCoreModel" "thrown" "I", .fieldLink RX9 19 "ScoreboardCoreModel" "stop" "I"] ++ wsX90)
def wsX9_place : List Cond := .code yX9_place cX9_place 1 (some .int) :: ([.fieldLink RX9 39 "ScoreboardCoreModel" "thrown" "I", .fieldLink RX9 50 "ScoreboardCoreModel" "word" "I", .fieldLink RX9 53 "ScoreboardCoreModel" "parcel" "I"] ++ wsX90)
def wsX9_cycles : List Cond := .code yX9_cycles cX9_cycles 1 (some .long) :: ([.fieldLink RX9 39 "ScoreboardCoreModel" "thrown" "I", .fieldLink RX9 213 "ScoreboardCoreModel" "cycles" "J"] ++ wsX90)
def wsX9_done : List Cond := .code yX9_done cX9_done 2 (some .int) :: ([.fieldLink RX9 39 "ScoreboardCoreModel" "thrown" "I", .fieldLink RX9 23 "ScoreboardCoreModel" "done" "[I"] ++ wsX90)
def wsX9_waited : List Cond := .code yX9_waited cX9_waited 2 (some .long) :: ([.fieldLink RX9 39 "ScoreboardCoreModel" "thrown" "I", .fieldLink RX9 27 "ScoreboardCoreModel" "waited" "[J"] ++ wsX90)
def wsJ9_max_7cf53 : List Cond := .code yJ9_max_7cf53 cJ9_max_7cf53 2 (some .int) :: ([])
def wsJ9_min_7cf53 : List Cond := .code yJ9_min_7cf53 cJ9_min_7cf53 2 (some .int) :: ([])
def wsL_write : List Cond := .codeWith yL_write cL_write 6 (some .int) [(0, 10, 13, 13)] :: ([.classLink RL 13 "java/lang/IndexOutOfBoundsException", .methodLink RL 7 yX8_write, .instanceMethod yX8_write, .selects RX8 yX8_write yX8_write, .initialized RX8, .code yX8_write cX8_write 6 (some .long), .classLink RX8 51 "java/lang/IndexOutOfBoundsException", .initialized "java/lang/IndexOutOfBoundsException", .fieldLink RX8 10 "ScoreboardCore" "memory" "LScoreboardCore$Memory;", .methodLink RX8 47 yX3_holds, .static yX3_holds, .initialized RX3, .code yX3_holds cX3_holds 1 (some .boolean), .methodLink RX8 54 yX3_load, .instanceMethod yX3_load, .selects RX3 yX3_load yX3_load, .code yX3_load cX3_load 2 (some .long), .fieldLink RX3 9 "ScoreboardCore$Memory" "words" "[J", .methodLink RX3 18 yX3_holds, .methodLink RX8 58 yX3_store, .instanceMethod yX3_store, .selects RX3 yX3_store yX3_store, .code yX3_store cX3_store 4 none, .constantLong RX3 22 (1152921504606846975)] ++ wsX80 ++ wsX30 ++ (vx_at0 RX8 53 "java/lang/IndexOutOfBoundsException" ["java/lang/RuntimeException", "java/lang/Exception"]).filter goodWord)
def wsL_read : List Cond := .codeWith yL_read cL_read 4 (some .int) [(0, 8, 11, 13)] :: ([.classLink RL 13 "java/lang/IndexOutOfBoundsException", .methodLink RL 15 yX8_read, .instanceMethod yX8_read, .selects RX8 yX8_read yX8_read, .initialized RX8, .code yX8_read cX8_read 2 (some .long), .classLink RX8 51 "java/lang/IndexOutOfBoundsException", .initialized "java/lang/IndexOutOfBoundsException", .fieldLink RX8 10 "ScoreboardCore" "memory" "LScoreboardCore$Memory;", .methodLink RX8 47 yX3_holds, .static yX3_holds, .initialized RX3, .code yX3_holds cX3_holds 1 (some .boolean), .methodLink RX8 54 yX3_load, .instanceMethod yX3_load, .selects RX3 yX3_load yX3_load, .code yX3_load cX3_load 2 (some .long), .fieldLink RX3 9 "ScoreboardCore$Memory" "words" "[J", .methodLink RX3 18 yX3_holds] ++ wsX80 ++ wsX30 ++ (vx_at0 RX8 53 "java/lang/IndexOutOfBoundsException" ["java/lang/RuntimeException", "java/lang/Exception"]).filter goodWord)
def wsL_register : List Cond := .codeWith yL_register cL_register 4 (some .int) [(0, 8, 11, 13)] :: ([.classLink RL 13 "java/lang/IndexOutOfBoundsException", .methodLink RL 19 yX8_register, .instanceMethod yX8_register, .selects RX8 yX8_register yX8_register, .initialized RX8, .code yX8_register cX8_register 2 (some .long), .classLink RX8 51 "java/lang/IndexOutOfBoundsException", .initialized "java/lang/IndexOutOfBoundsException", .fieldLink RX8 19 "ScoreboardCore" "registers" "LScoreboardCore$Registers;", .methodLink RX8 62 yX6_get, .instanceMethod yX6_get, .selects RX6 yX6_get yX6_get, .initialized RX6, .code yX6_get cX6_get 2 (some .long), .fieldLink RX6 9 "ScoreboardCore$Registers" "values" "[J"] ++ wsX80 ++ wsX60 ++ (vx_at0 RX8 53 "java/lang/IndexOutOfBoundsException" ["java/lang/RuntimeException", "java/lang/Exception"]).filter goodWord)
def wsL_put : List Cond := .codeWith yL_put cL_put 5 (some .int) [(0, 6, 9, 13)] :: ([.classLink RL 13 "java/lang/IndexOutOfBoundsException", .methodLink RL 22 yX8_put, .instanceMethod yX8_put, .selects RX8 yX8_put yX8_put, .initialized RX8, .code yX8_put cX8_put 4 none, .classLink RX8 51 "java/lang/IndexOutOfBoundsException", .initialized "java/lang/IndexOutOfBoundsException", .fieldLink RX8 19 "ScoreboardCore" "registers" "LScoreboardCore$Registers;", .methodLink RX8 65 yX6_set, .instanceMethod yX6_set, .selects RX6 yX6_set yX6_set, .initialized RX6, .code yX6_set cX6_set 4 none, .fieldLink RX6 9 "ScoreboardCore$Registers" "values" "[J", .constantLong RX6 15 (1152921504606846975), .constantLong RX6 17 (262143)] ++ wsX80 ++ wsX60 ++ (vx_at0 RX8 53 "java/lang/IndexOutOfBoundsException" ["java/lang/RuntimeException", "java/lang/Exception"]).filter goodWord)
def wsL_start : List Cond := .codeWith yL_start cL_start 3 (some .int) [(0, 5, 8, 30)] :: ([.classLink RL 30 "java/lang/IllegalArgumentException", .methodLink RL 26 yX8_start, .instanceMethod yX8_start, .selects RX8 yX8_start yX8_start, .initialized RX8, .code yX8_start cX8_start 2 none, .classLink RX8 68 "java/lang/IllegalArgumentException", .initialized "java/lang/IllegalArgumentException", .fieldLink RX8 44 "ScoreboardCore" "stop" "I", .methodLink RX8 47 yX3_holds, .static yX3_holds, .initialized RX3, .code yX3_holds cX3_holds 1 (some .boolean), .methodLink RX8 71 yX8_goOnAt, .instanceMethod yX8_goOnAt, .selects RX8 yX8_goOnAt yX8_goOnAt, .code yX8_goOnAt cX8_goOnAt 2 none, .fieldLink RX8 37 "ScoreboardCore" "word" "I", .fieldLink RX8 41 "ScoreboardCore" "parcel" "I"] ++ wsX80 ++ (vx_at0 RX8 70 "java/lang/IllegalArgumentException" ["java/lang/RuntimeException", "java/lang/Exception"]).filter goodWord)
def wsL_run_r1 : List Cond := [Cond.classLink RL 30 "java/lang/IllegalArgumentException", Cond.methodLink RL 32 yX8_run, Cond.instanceMethod yX8_run, Cond.selects RX8 yX8_run yX8_run, Cond.initialized RX8, Cond.code yX8_run cX8_run 4 (some .int), Cond.classLink RX8 68 "java/lang/IllegalArgumentException", Cond.initialized "java/lang/IllegalArgumentException", Cond.fieldLink RX8 10 "ScoreboardCore" "memory" "LScoreboardCore$Memory;", Cond.fieldLink RX8 26 "ScoreboardCore" "board" "LScoreboardCore$Board;", Cond.fieldLink RX8 44 "ScoreboardCore" "stop" "I", Cond.methodLink RX8 75 yX3_keepProgram, Cond.instanceMethod yX3_keepProgram, Cond.selects RX3 yX3_keepProgram yX3_keepProgram, Cond.initialized RX3, Cond.code yX3_keepProgram cX3_keepProgram 1 none, Cond.fieldLink RX3 9 "ScoreboardCore$Memory" "words" "[J", Cond.fieldLink RX3 15 "ScoreboardCore$Memory" "program" "[J", Cond.methodLink RX3 24 arraycopyName, Cond.native arraycopyName, Cond.static arraycopyName, Cond.initialized "java/lang/System", Cond.methodLink RX8 78 yX0_empty, Cond.instanceMethod yX0_empty]
def wsL_run_r2 : List Cond := [Cond.selects RX0 yX0_empty yX0_empty, Cond.initialized RX0, Cond.code yX0_empty cX0_empty 1 none, Cond.fieldLink RX0 19 "ScoreboardCore$Board" "unitFreeFrom" "[I", Cond.fieldLink RX0 22 "ScoreboardCore$Board" "registerFreeFrom" "[I", Cond.fieldLink RX0 25 "ScoreboardCore$Board" "registerLastRead" "[I", Cond.fieldLink RX0 38 "ScoreboardCore$Board" "memoryLastEnd" "I", Cond.fieldLink RX0 42 "ScoreboardCore$Board" "earliest" "I", Cond.fieldLink RX0 45 "ScoreboardCore$Board" "last" "I", Cond.methodLink RX0 32 yJ7_fill_53178, Cond.static yJ7_fill_53178, Cond.initialized RJ7, Cond.code yJ7_fill_53178 cJ7_fill_53178 4 none, Cond.methodLink RX8 81 yX8_takeNext, Cond.instanceMethod yX8_takeNext, Cond.selects RX8 yX8_takeNext yX8_takeNext, Cond.code yX8_takeNext cX8_takeNext 1 (some .boolean), Cond.fieldLink RX8 33 "ScoreboardCore" "instruction" "LScoreboardCore$Instruction;", Cond.fieldLink RX8 37 "ScoreboardCore" "word" "I", Cond.fieldLink RX8 41 "ScoreboardCore" "parcel" "I", Cond.fieldLink RX8 19 "ScoreboardCore" "registers" "LScoreboardCore$Registers;", Cond.methodLink RX8 99 yX3_programWord, Cond.instanceMethod yX3_programWord, Cond.selects RX3 yX3_programWord yX3_programWord]
def wsL_run_r3 : List Cond := [Cond.code yX3_programWord cX3_programWord 2 (some .long), Cond.methodLink RX3 18 yX3_holds, Cond.static yX3_holds, Cond.code yX3_holds cX3_holds 1 (some .boolean), Cond.methodLink RX8 102 yX1_decode, Cond.instanceMethod yX1_decode, Cond.selects RX1 yX1_decode yX1_decode, Cond.initialized RX1, Cond.code yX1_decode cX1_decode 5 none, Cond.fieldLink RX1 21 "ScoreboardCore$Instruction" "parcelsLeft" "I", Cond.fieldLink RX1 25 "ScoreboardCore$Instruction" "op" "I", Cond.fieldLink RX1 28 "ScoreboardCore$Instruction" "i" "I", Cond.fieldLink RX1 31 "ScoreboardCore$Instruction" "j" "I", Cond.fieldLink RX1 34 "ScoreboardCore$Instruction" "k" "I", Cond.constant RX1 37 (262143), Cond.fieldLink RX1 38 "ScoreboardCore$Instruction" "constant" "I", Cond.fieldLink RX1 45 "ScoreboardCore$Instruction" "unit" "I", Cond.fieldLink RX1 14 "ScoreboardCore$Instruction" "needs" "LScoreboardCore$RegisterList;", Cond.fieldLink RX1 18 "ScoreboardCore$Instruction" "results" "LScoreboardCore$RegisterList;", Cond.methodLink RX1 41 yX1_unitOf, Cond.static yX1_unitOf, Cond.code yX1_unitOf cX1_unitOf 1 (some .int), Cond.methodLink RX1 48 yX5_clear, Cond.instanceMethod yX5_clear]
def wsL_run_r4 : List Cond := [Cond.selects RX5 yX5_clear yX5_clear, Cond.initialized RX5, Cond.code yX5_clear cX5_clear 1 none, Cond.fieldLink RX5 15 "ScoreboardCore$RegisterList" "size" "I", Cond.methodLink RX1 51 yX1_listNeeds, Cond.instanceMethod yX1_listNeeds, Cond.selects RX1 yX1_listNeeds yX1_listNeeds, Cond.code yX1_listNeeds cX1_listNeeds 1 none, Cond.methodLink RX1 65 yX1_listLogicNeeds, Cond.instanceMethod yX1_listLogicNeeds, Cond.selects RX1 yX1_listLogicNeeds yX1_listLogicNeeds, Cond.code yX1_listLogicNeeds cX1_listLogicNeeds 1 none, Cond.methodLink RX1 71 yX5_addX, Cond.instanceMethod yX5_addX, Cond.selects RX5 yX5_addX yX5_addX, Cond.code yX5_addX cX5_addX 2 none, Cond.methodLink RX5 19 yX5_add, Cond.instanceMethod yX5_add, Cond.selects RX5 yX5_add yX5_add, Cond.code yX5_add cX5_add 2 none, Cond.fieldLink RX5 11 "ScoreboardCore$RegisterList" "numbers" "[I", Cond.methodLink RX1 68 yX1_listShiftNeeds, Cond.instanceMethod yX1_listShiftNeeds, Cond.selects RX1 yX1_listShiftNeeds yX1_listShiftNeeds]
def wsL_run_r5 : List Cond := [Cond.code yX1_listShiftNeeds cX1_listShiftNeeds 1 none, Cond.methodLink RX1 81 yX5_addB, Cond.instanceMethod yX5_addB, Cond.selects RX5 yX5_addB yX5_addB, Cond.code yX5_addB cX5_addB 2 none, Cond.methodLink RX1 75 yX1_listAddressNeeds, Cond.instanceMethod yX1_listAddressNeeds, Cond.selects RX1 yX1_listAddressNeeds yX1_listAddressNeeds, Cond.code yX1_listAddressNeeds cX1_listAddressNeeds 1 none, Cond.methodLink RX1 84 yX5_addA, Cond.instanceMethod yX5_addA, Cond.selects RX5 yX5_addA yX5_addA, Cond.code yX5_addA cX5_addA 2 none, Cond.methodLink RX1 61 yX1_parcels, Cond.instanceMethod yX1_parcels, Cond.selects RX1 yX1_parcels yX1_parcels, Cond.code yX1_parcels cX1_parcels 2 (some .int), Cond.methodLink RX1 57 yX1_isJump, Cond.instanceMethod yX1_isJump, Cond.selects RX1 yX1_isJump yX1_isJump, Cond.code yX1_isJump cX1_isJump 1 (some .boolean), Cond.methodLink RX1 87 yX1_stores, Cond.instanceMethod yX1_stores, Cond.selects RX1 yX1_stores yX1_stores]
def wsL_run_r6 : List Cond := [Cond.code yX1_stores cX1_stores 1 (some .boolean), Cond.methodLink RX1 78 yX1_listJumpNeeds, Cond.instanceMethod yX1_listJumpNeeds, Cond.selects RX1 yX1_listJumpNeeds yX1_listJumpNeeds, Cond.code yX1_listJumpNeeds cX1_listJumpNeeds 1 none, Cond.methodLink RX1 54 yX1_listResults, Cond.instanceMethod yX1_listResults, Cond.selects RX1 yX1_listResults yX1_listResults, Cond.code yX1_listResults cX1_listResults 1 none, Cond.methodLink RX1 90 yX1_loads, Cond.instanceMethod yX1_loads, Cond.selects RX1 yX1_loads yX1_loads, Cond.code yX1_loads cX1_loads 1 (some .boolean), Cond.methodLink RX8 106 yX1_stopCode, Cond.instanceMethod yX1_stopCode, Cond.selects RX1 yX1_stopCode yX1_stopCode, Cond.code yX1_stopCode cX1_stopCode 3 (some .int), Cond.methodLink RX8 110 yX1_isJump, Cond.methodLink RX8 113 yX8_takeJump, Cond.instanceMethod yX8_takeJump, Cond.selects RX8 yX8_takeJump yX8_takeJump, Cond.code yX8_takeJump cX8_takeJump 3 none, Cond.methodLink RX8 129 yX2_goesElsewhere, Cond.static yX2_goesElsewhere]
def wsL_run_r7 : List Cond := [Cond.initialized RX2, Cond.code yX2_goesElsewhere cX2_goesElsewhere 2 (some .boolean), Cond.methodLink RX2 9 yX1_op, Cond.instanceMethod yX1_op, Cond.selects RX1 yX1_op yX1_op, Cond.code yX1_op cX1_op 1 (some .int), Cond.methodLink RX2 15 yX1_i, Cond.instanceMethod yX1_i, Cond.selects RX1 yX1_i yX1_i, Cond.code yX1_i cX1_i 1 (some .int), Cond.methodLink RX2 18 yX1_j, Cond.instanceMethod yX1_j, Cond.selects RX1 yX1_j yX1_j, Cond.code yX1_j cX1_j 1 (some .int), Cond.methodLink RX2 21 yX6_x, Cond.instanceMethod yX6_x, Cond.selects RX6 yX6_x yX6_x, Cond.initialized RX6, Cond.code yX6_x cX6_x 2 (some .long), Cond.fieldLink RX6 9 "ScoreboardCore$Registers" "values" "[J", Cond.methodLink RX2 27 yX2_wordHolds, Cond.static yX2_wordHolds, Cond.code yX2_wordHolds cX2_wordHolds 3 (some .boolean), Cond.methodLink RX2 53 yX4_isZero]
def wsL_run_r8 : List Cond := [Cond.static yX4_isZero, Cond.initialized RX4, Cond.code yX4_isZero cX4_isZero 2 (some .boolean), Cond.constantLong RX4 17 (1152921504606846975), Cond.methodLink RX2 57 yX4_isNegative, Cond.static yX4_isNegative, Cond.code yX4_isNegative cX4_isNegative 2 (some .boolean), Cond.methodLink RX2 33 yX6_b, Cond.instanceMethod yX6_b, Cond.selects RX6 yX6_b yX6_b, Cond.code yX6_b cX6_b 2 (some .long), Cond.methodLink RX2 36 yX2_shortsHold, Cond.static yX2_shortsHold, Cond.code yX2_shortsHold cX2_shortsHold 6 (some .boolean), Cond.methodLink RX2 60 yX4_plain, Cond.static yX4_plain, Cond.code yX4_plain cX4_plain 2 (some .long), Cond.constantLong RX4 25 (262143), Cond.methodLink RX4 19 yX4_isShortNegative, Cond.static yX4_isShortNegative, Cond.code yX4_isShortNegative cX4_isShortNegative 2 (some .boolean), Cond.constantLong RX4 15 (131071), Cond.methodLink RX2 64 yJ13_compare_74951, Cond.static yJ13_compare_74951]
def wsL_run_r9 : List Cond := [Cond.initialized RJ13, Cond.code yJ13_compare_74951 cJ13_compare_74951 4 (some .int), Cond.methodLink RX8 135 yX0_doJump, Cond.instanceMethod yX0_doJump, Cond.selects RX0 yX0_doJump yX0_doJump, Cond.code yX0_doJump cX0_doJump 5 none, Cond.fieldLink RX0 11 "ScoreboardCore$Board" "doneCounts" "[I", Cond.methodLink RX0 69 yX1_needs, Cond.instanceMethod yX1_needs, Cond.selects RX1 yX1_needs yX1_needs, Cond.code yX1_needs cX1_needs 1 (some (.object "ScoreboardCore$RegisterList")), Cond.methodLink RX0 73 yX5_latestIn, Cond.instanceMethod yX5_latestIn, Cond.selects RX5 yX5_latestIn yX5_latestIn, Cond.code yX5_latestIn cX5_latestIn 4 (some .int), Cond.methodLink RX5 23 Lib.Math.max.name, Cond.static Lib.Math.max.name, Cond.initialized "java/lang/Math", Cond.code Lib.Math.max.name Lib.Math.max.code 2 (some .int), Cond.methodLink RX0 79 yX1_op, Cond.methodLink RX0 82 yX0_waitFor, Cond.instanceMethod yX0_waitFor, Cond.selects RX0 yX0_waitFor yX0_waitFor, Cond.code yX0_waitFor cX0_waitFor 5 (some .int)]
def wsL_run_r10 : List Cond := [Cond.methodLink RX0 118 Lib.Math.max.name, Cond.fieldLink RX0 15 "ScoreboardCore$Board" "waitCounts" "[J", Cond.methodLink RX0 62 yX0_reach, Cond.instanceMethod yX0_reach, Cond.selects RX0 yX0_reach yX0_reach, Cond.code yX0_reach cX0_reach 2 none, Cond.methodLink RX8 126 yX8_goOnBehind, Cond.instanceMethod yX8_goOnBehind, Cond.selects RX8 yX8_goOnBehind yX8_goOnBehind, Cond.code yX8_goOnBehind cX8_goOnBehind 2 none, Cond.methodLink RX8 155 yX1_parcels, Cond.methodLink RX8 71 yX8_goOnAt, Cond.instanceMethod yX8_goOnAt, Cond.selects RX8 yX8_goOnAt yX8_goOnAt, Cond.code yX8_goOnAt cX8_goOnAt 2 none, Cond.methodLink RX8 47 yX3_holds, Cond.methodLink RX8 139 yX2_target, Cond.static yX2_target, Cond.code yX2_target cX2_target 2 (some .int), Cond.constantLong RX2 43 (262143), Cond.methodLink RX2 40 yX1_constant, Cond.instanceMethod yX1_constant, Cond.selects RX1 yX1_constant yX1_constant, Cond.code yX1_constant cX1_constant 1 (some .int)]
def wsL_run_r11 : List Cond := [Cond.methodLink RX2 45 yX4_sum, Cond.static yX4_sum, Cond.code yX4_sum cX4_sum 9 (some .long), Cond.methodLink RX8 143 yX1_op, Cond.methodLink RX8 146 yX1_constant, Cond.methodLink RX8 149 yX2_wayBack, Cond.static yX2_wayBack, Cond.code yX2_wayBack cX2_wayBack 1 (some .long), Cond.constantLong RX2 51 (72057594037927936), Cond.methodLink RX8 152 yX3_storeInProgram, Cond.instanceMethod yX3_storeInProgram, Cond.selects RX3 yX3_storeInProgram yX3_storeInProgram, Cond.code yX3_storeInProgram cX3_storeInProgram 4 none, Cond.constantLong RX3 22 (1152921504606846975), Cond.methodLink RX3 30 yX3_store, Cond.instanceMethod yX3_store, Cond.selects RX3 yX3_store yX3_store, Cond.code yX3_store cX3_store 4 none, Cond.methodLink RX8 116 yX0_giveOut, Cond.instanceMethod yX0_giveOut, Cond.selects RX0 yX0_giveOut yX0_giveOut, Cond.code yX0_giveOut cX0_giveOut 3 none, Cond.methodLink RX0 48 yX1_unit, Cond.instanceMethod yX1_unit]
def wsL_run_r12 : List Cond := [Cond.selects RX1 yX1_unit yX1_unit, Cond.code yX1_unit cX1_unit 1 (some .int), Cond.methodLink RX0 54 yX0_givenOutAt, Cond.instanceMethod yX0_givenOutAt, Cond.selects RX0 yX0_givenOutAt yX0_givenOutAt, Cond.code yX0_givenOutAt cX0_givenOutAt 5 (some .int), Cond.methodLink RX0 86 Lib.Math.min.name, Cond.static Lib.Math.min.name, Cond.code Lib.Math.min.name Lib.Math.min.code 2 (some .int), Cond.methodLink RX0 92 yX1_results, Cond.instanceMethod yX1_results, Cond.selects RX1 yX1_results yX1_results, Cond.code yX1_results cX1_results 1 (some (.object "ScoreboardCore$RegisterList")), Cond.methodLink RX0 58 yX0_occupyUnit, Cond.instanceMethod yX0_occupyUnit, Cond.selects RX0 yX0_occupyUnit yX0_occupyUnit, Cond.code yX0_occupyUnit cX0_occupyUnit 6 none, Cond.fieldLink RX0 98 "ScoreboardCore$Board" "UNIT_CYCLES" "[I", Cond.methodLink RX0 95 yX0_unitFreeAt, Cond.instanceMethod yX0_unitFreeAt, Cond.selects RX0 yX0_unitFreeAt yX0_unitFreeAt, Cond.code yX0_unitFreeAt cX0_unitFreeAt 4 (some .int), Cond.methodLink RX0 101 yX0_endsAt, Cond.instanceMethod yX0_endsAt]
def wsL_run_r13 : List Cond := [Cond.selects RX0 yX0_endsAt yX0_endsAt, Cond.code yX0_endsAt cX0_endsAt 4 (some .int), Cond.methodLink RX0 108 yX1_loads, Cond.methodLink RX0 112 yX1_stores, Cond.methodLink RX0 105 yX5_raiseIn, Cond.instanceMethod yX5_raiseIn, Cond.selects RX5 yX5_raiseIn yX5_raiseIn, Cond.code yX5_raiseIn cX5_raiseIn 5 none, Cond.methodLink RX0 115 yX1_i, Cond.methodLink RX0 66 yX1_parcels, Cond.methodLink RX8 120 yX7_apply, Cond.static yX7_apply, Cond.initialized RX7, Cond.code yX7_apply cX7_apply 3 none, Cond.methodLink RX7 9 yX1_unit, Cond.methodLink RX7 15 yX1_i, Cond.methodLink RX7 18 yX1_op, Cond.methodLink RX7 21 yX1_j, Cond.methodLink RX7 24 yX6_x, Cond.methodLink RX7 30 yX1_k, Cond.instanceMethod yX1_k, Cond.selects RX1 yX1_k yX1_k, Cond.code yX1_k cX1_k 1 (some .int), Cond.methodLink RX7 33 yX7_logic]
def wsL_run_r14 : List Cond := [Cond.static yX7_logic, Cond.code yX7_logic cX7_logic 5 (some .long), Cond.constantLong RX7 60 (-1), Cond.methodLink RX7 39 yX6_set, Cond.instanceMethod yX6_set, Cond.selects RX6 yX6_set yX6_set, Cond.code yX6_set cX6_set 4 none, Cond.constantLong RX6 15 (1152921504606846975), Cond.constantLong RX6 17 (262143), Cond.methodLink RX7 43 yX7_shift, Cond.static yX7_shift, Cond.code yX7_shift cX7_shift 2 (some .long), Cond.methodLink RX7 62 yX1_jk, Cond.instanceMethod yX1_jk, Cond.selects RX1 yX1_jk yX1_jk, Cond.code yX1_jk cX1_jk 1 (some .int), Cond.methodLink RX7 65 yX4_turnedRoundLeft, Cond.static yX4_turnedRoundLeft, Cond.code yX4_turnedRoundLeft cX4_turnedRoundLeft 4 (some .long), Cond.methodLink RX7 71 yX4_shiftedRight, Cond.static yX4_shiftedRight, Cond.code yX4_shiftedRight cX4_shiftedRight 5 (some .long), Cond.constantLong RX4 30 (-1152921504606846976), Cond.methodLink RX4 32 Lib.Math.min.name]
def wsL_run_r15 : List Cond := [Cond.methodLink RX4 27 yX4_isNegative, Cond.methodLink RX7 74 yX6_b, Cond.methodLink RX7 77 yX7_shiftBy, Cond.static yX7_shiftBy, Cond.code yX7_shiftBy cX7_shiftBy 7 (some .long), Cond.methodLink RX7 84 yX4_isShortNegative, Cond.methodLink RX7 81 yX4_highestBits, Cond.static yX4_highestBits, Cond.code yX4_highestBits cX4_highestBits 1 (some .long), Cond.methodLink RX7 47 yX7_wordSum, Cond.static yX7_wordSum, Cond.code yX7_wordSum cX7_wordSum 5 (some .long), Cond.constantLong RX7 88 (1152921504606846975), Cond.methodLink RX7 90 yX4_sum, Cond.methodLink RX7 94 yX4_difference, Cond.static yX4_difference, Cond.code yX4_difference cX4_difference 6 (some .long), Cond.methodLink RX4 9 yX4_sum, Cond.methodLink RX7 50 yJ13_bitCount_95d88, Cond.static yJ13_bitCount_95d88, Cond.code yJ13_bitCount_95d88 cJ13_bitCount_95d88 2 (some .int), Cond.constantLong RJ13 314 (6148914691236517205), Cond.constantLong RJ13 316 (3689348814741910323), Cond.constantLong RJ13 318 (1085102592571150095)]
def wsL_run_r16 : List Cond := [Cond.methodLink RX7 56 yX7_applyAddress, Cond.static yX7_applyAddress, Cond.code yX7_applyAddress cX7_applyAddress 6 none, Cond.methodLink RX7 97 yX7_shortSum, Cond.static yX7_shortSum, Cond.code yX7_shortSum cX7_shortSum 10 (some .long), Cond.constantLong RX7 126 (262143), Cond.methodLink RX7 123 yX6_a, Cond.instanceMethod yX6_a, Cond.selects RX6 yX6_a yX6_a, Cond.code yX6_a cX6_a 2 (some .long), Cond.methodLink RX7 128 yX1_constant, Cond.methodLink RX7 100 yX7_reachMemory, Cond.static yX7_reachMemory, Cond.code yX7_reachMemory cX7_reachMemory 4 none, Cond.methodLink RX7 108 yX1_loads, Cond.methodLink RX7 112 yX3_load, Cond.instanceMethod yX3_load, Cond.selects RX3 yX3_load yX3_load, Cond.code yX3_load cX3_load 2 (some .long), Cond.methodLink RX7 117 yX1_stores, Cond.methodLink RX7 120 yX3_store, Cond.methodLink RX7 104 yX4_extended, Cond.static yX4_extended]
def wsL_run_r17 : List Cond := [Cond.code yX4_extended cX4_extended 2 (some .long), Cond.constantLong RX4 23 (1152921504606584832), Cond.methodLink RX8 85 yX0_countCycles, Cond.instanceMethod yX0_countCycles, Cond.selects RX0 yX0_countCycles yX0_countCycles, Cond.code yX0_countCycles cX0_countCycles 1 none, Cond.fieldLink RX0 28 "ScoreboardCore$Board" "counted" "J"]
def wsL_run : List Cond := .codeWith yL_run cL_run 4 (some .int) [(0, 9, 12, 30)] :: ((wsL_run_r1 ++ (wsL_run_r2 ++ (wsL_run_r3 ++ (wsL_run_r4 ++ (wsL_run_r5 ++ (wsL_run_r6 ++ (wsL_run_r7 ++ (wsL_run_r8 ++ (wsL_run_r9 ++ (wsL_run_r10 ++ (wsL_run_r11 ++ (wsL_run_r12 ++ (wsL_run_r13 ++ (wsL_run_r14 ++ (wsL_run_r15 ++ (wsL_run_r16 ++ wsL_run_r17)))))))))))))))) ++ wsX80 ++ wsX30 ++ wsX00 ++ wsX10 ++ wsX50 ++ wsX60 ++ (vx_at0 RX8 70 "java/lang/IllegalArgumentException" ["java/lang/RuntimeException", "java/lang/Exception"]).filter goodWord)
def wsL_done : List Cond := .codeWith yL_done cL_done 4 (some .int) [(0, 9, 12, 30)] :: ([.classLink RL 30 "java/lang/IllegalArgumentException", .methodLink RL 36 yX8_done, .instanceMethod yX8_done, .selects RX8 yX8_done yX8_done, .initialized RX8, .code yX8_done cX8_done 2 (some .int), .classLink RX8 68 "java/lang/IllegalArgumentException", .initialized "java/lang/IllegalArgumentException", .fieldLink RX8 26 "ScoreboardCore" "board" "LScoreboardCore$Board;", .methodLink RX8 92 yX0_doneBy, .instanceMethod yX0_doneBy, .selects RX0 yX0_doneBy yX0_doneBy, .initialized RX0, .code yX0_doneBy cX0_doneBy 2 (some .int), .fieldLink RX0 11 "ScoreboardCore$Board" "doneCounts" "[I"] ++ wsX80 ++ wsX00 ++ (vx_at0 RX8 70 "java/lang/IllegalArgumentException" ["java/lang/RuntimeException", "java/lang/Exception"]).filter goodWord)
def wsL_waited : List Cond := .codeWith yL_waited cL_waited 4 (some .int) [(0, 8, 11, 30)] :: ([.classLink RL 30 "java/lang/IllegalArgumentException", .methodLink RL 39 yX8_waited, .instanceMethod yX8_waited, .selects RX8 yX8_waited yX8_waited, .initialized RX8, .code yX8_waited cX8_waited 2 (some .long), .classLink RX8 68 "java/lang/IllegalArgumentException", .initialized "java/lang/IllegalArgumentException", .fieldLink RX8 26 "ScoreboardCore" "board" "LScoreboardCore$Board;", .methodLink RX8 96 yX0_waitedFor, .instanceMethod yX0_waitedFor, .selects RX0 yX0_waitedFor yX0_waitedFor, .initialized RX0, .code yX0_waitedFor cX0_waitedFor 2 (some .long), .fieldLink RX0 15 "ScoreboardCore$Board" "waitCounts" "[J"] ++ wsX80 ++ wsX00 ++ (vx_at0 RX8 70 "java/lang/IllegalArgumentException" ["java/lang/RuntimeException", "java/lang/Exception"]).filter goodWord)
def wsL_law0_r1 : List Cond := [Cond.classLink RL 8 RX8, Cond.instantiable RX8 7, Cond.initialized RX8, Cond.classLink RL 43 RX9, Cond.instantiable RX9 24, Cond.initialized RX9, Cond.arrayClass .long, Cond.constantLong RL 46 (4294967295), Cond.methodLink RL 42 yX8_init, Cond.instanceMethod yX8_init, Cond.code yX8_init cX8_init 1 none, Cond.methodLink RX8 1 objectInit, Cond.instanceMethod objectInit, Cond.code objectInit ⟨#[0xb1]⟩ 1 none, Cond.classLink RX8 7 RX3, Cond.instantiable RX3 2, Cond.initialized RX3, Cond.fieldLink RX8 10 "ScoreboardCore" "memory" "LScoreboardCore$Memory;", Cond.classLink RX8 16 RX6, Cond.instantiable RX6 1, Cond.initialized RX6, Cond.fieldLink RX8 19 "ScoreboardCore" "registers" "LScoreboardCore$Registers;", Cond.classLink RX8 23 RX0, Cond.instantiable RX0 9]
def wsL_law0_r2 : List Cond := [Cond.initialized RX0, Cond.fieldLink RX8 26 "ScoreboardCore" "board" "LScoreboardCore$Board;", Cond.classLink RX8 30 RX1, Cond.instantiable RX1 9, Cond.initialized RX1, Cond.fieldLink RX8 33 "ScoreboardCore" "instruction" "LScoreboardCore$Instruction;", Cond.fieldLink RX8 37 "ScoreboardCore" "word" "I", Cond.fieldLink RX8 41 "ScoreboardCore" "parcel" "I", Cond.fieldLink RX8 44 "ScoreboardCore" "stop" "I", Cond.instanceMethod yX3_init, Cond.code yX3_init cX3_init 1 none, Cond.methodLink RX3 3 objectInit, Cond.fieldLink RX3 9 "ScoreboardCore$Memory" "words" "[J", Cond.fieldLink RX3 15 "ScoreboardCore$Memory" "program" "[J", Cond.instanceMethod yX6_init, Cond.code yX6_init cX6_init 1 none, Cond.methodLink RX6 3 objectInit, Cond.fieldLink RX6 9 "ScoreboardCore$Registers" "values" "[J", Cond.instanceMethod yX0_init, Cond.code yX0_init cX0_init 1 none, Cond.methodLink RX0 3 objectInit, Cond.arrayClass .int, Cond.fieldLink RX0 11 "ScoreboardCore$Board" "doneCounts" "[I", Cond.fieldLink RX0 15 "ScoreboardCore$Board" "waitCounts" "[J"]
def wsL_law0_r3 : List Cond := [Cond.fieldLink RX0 19 "ScoreboardCore$Board" "unitFreeFrom" "[I", Cond.fieldLink RX0 22 "ScoreboardCore$Board" "registerFreeFrom" "[I", Cond.fieldLink RX0 25 "ScoreboardCore$Board" "registerLastRead" "[I", Cond.instanceMethod yX1_init, Cond.code yX1_init cX1_init 1 none, Cond.methodLink RX1 5 objectInit, Cond.classLink RX1 11 RX5, Cond.instantiable RX5 2, Cond.initialized RX5, Cond.fieldLink RX1 14 "ScoreboardCore$Instruction" "needs" "LScoreboardCore$RegisterList;", Cond.fieldLink RX1 18 "ScoreboardCore$Instruction" "results" "LScoreboardCore$RegisterList;", Cond.instanceMethod yX5_init, Cond.code yX5_init cX5_init 1 none, Cond.methodLink RX5 3 objectInit, Cond.fieldLink RX5 11 "ScoreboardCore$RegisterList" "numbers" "[I", Cond.methodLink RL 45 yX9_init, Cond.instanceMethod yX9_init, Cond.code yX9_init cX9_init 1 none, Cond.methodLink RX9 1 objectInit, Cond.fieldLink RX9 7 "ScoreboardCoreModel" "memory" "[J", Cond.fieldLink RX9 13 "ScoreboardCoreModel" "program" "[J", Cond.fieldLink RX9 16 "ScoreboardCoreModel" "\x72" "[J", Cond.fieldLink RX9 19 "ScoreboardCoreModel" "stop" "I", Cond.fieldLink RX9 23 "ScoreboardCoreModel" "done" "[I"]
def wsL_law0_r4 : List Cond := [Cond.fieldLink RX9 27 "ScoreboardCoreModel" "waited" "[J", Cond.fieldLink RX9 30 "ScoreboardCoreModel" "free" "[J", Cond.fieldLink RX9 33 "ScoreboardCoreModel" "read" "[J", Cond.fieldLink RX9 36 "ScoreboardCoreModel" "unitFree" "[J", Cond.methodLink RL 48 yL_write, Cond.static yL_write, Cond.initialized RL, Cond.codeWith yL_write cL_write 6 (some .int) [(0, 10, 13, 13)], Cond.classLink RL 13 "java/lang/IndexOutOfBoundsException", Cond.methodLink RL 7 yX8_write, Cond.instanceMethod yX8_write, Cond.selects RX8 yX8_write yX8_write, Cond.code yX8_write cX8_write 6 (some .long), Cond.classLink RX8 51 "java/lang/IndexOutOfBoundsException", Cond.initialized "java/lang/IndexOutOfBoundsException", Cond.methodLink RX8 47 yX3_holds, Cond.static yX3_holds, Cond.code yX3_holds cX3_holds 1 (some .boolean), Cond.methodLink RX8 54 yX3_load, Cond.instanceMethod yX3_load, Cond.selects RX3 yX3_load yX3_load, Cond.code yX3_load cX3_load 2 (some .long), Cond.methodLink RX3 18 yX3_holds, Cond.methodLink RX8 58 yX3_store]
def wsL_law0_r5 : List Cond := [Cond.instanceMethod yX3_store, Cond.selects RX3 yX3_store yX3_store, Cond.code yX3_store cX3_store 4 none, Cond.constantLong RX3 22 (1152921504606846975), Cond.methodLink RL 53 yX9_write, Cond.instanceMethod yX9_write, Cond.selects RX9 yX9_write yX9_write, Cond.code yX9_write cX9_write 6 (some .long), Cond.fieldLink RX9 39 "ScoreboardCoreModel" "thrown" "I", Cond.constantLong RX9 42 (1152921504606846975), Cond.methodLink RL 54 yX9_thrown, Cond.instanceMethod yX9_thrown, Cond.selects RX9 yX9_thrown yX9_thrown, Cond.code yX9_thrown cX9_thrown 1 (some .int), Cond.methodLink RL 58 yL_read, Cond.static yL_read, Cond.codeWith yL_read cL_read 4 (some .int) [(0, 8, 11, 13)], Cond.methodLink RL 15 yX8_read, Cond.instanceMethod yX8_read, Cond.selects RX8 yX8_read yX8_read, Cond.code yX8_read cX8_read 2 (some .long), Cond.methodLink RL 61 yX9_read, Cond.instanceMethod yX9_read, Cond.selects RX9 yX9_read yX9_read]
def wsL_law0_r6 : List Cond := [Cond.code yX9_read cX9_read 2 (some .long), Cond.methodLink RL 62 yL_register, Cond.static yL_register, Cond.codeWith yL_register cL_register 4 (some .int) [(0, 8, 11, 13)], Cond.methodLink RL 19 yX8_register, Cond.instanceMethod yX8_register, Cond.selects RX8 yX8_register yX8_register, Cond.code yX8_register cX8_register 2 (some .long), Cond.methodLink RX8 62 yX6_get, Cond.instanceMethod yX6_get, Cond.selects RX6 yX6_get yX6_get, Cond.code yX6_get cX6_get 2 (some .long), Cond.methodLink RL 64 yX9_register, Cond.instanceMethod yX9_register, Cond.selects RX9 yX9_register yX9_register, Cond.code yX9_register cX9_register 2 (some .long), Cond.methodLink RL 65 yL_put, Cond.static yL_put, Cond.codeWith yL_put cL_put 5 (some .int) [(0, 6, 9, 13)], Cond.methodLink RL 22 yX8_put, Cond.instanceMethod yX8_put, Cond.selects RX8 yX8_put yX8_put, Cond.code yX8_put cX8_put 4 none, Cond.methodLink RX8 65 yX6_set]
def wsL_law0_r7 : List Cond := [Cond.instanceMethod yX6_set, Cond.selects RX6 yX6_set yX6_set, Cond.code yX6_set cX6_set 4 none, Cond.constantLong RX6 15 (1152921504606846975), Cond.constantLong RX6 17 (262143), Cond.methodLink RL 68 yX9_put, Cond.instanceMethod yX9_put, Cond.selects RX9 yX9_put yX9_put, Cond.code yX9_put cX9_put 4 none, Cond.methodLink RX9 46 yX9_set, Cond.instanceMethod yX9_set, Cond.selects RX9 yX9_set yX9_set, Cond.code yX9_set cX9_set 4 none, Cond.constantLong RX9 44 (262143), Cond.methodLink RL 69 yL_start, Cond.static yL_start, Cond.codeWith yL_start cL_start 3 (some .int) [(0, 5, 8, 30)], Cond.classLink RL 30 "java/lang/IllegalArgumentException", Cond.methodLink RL 26 yX8_start, Cond.instanceMethod yX8_start, Cond.selects RX8 yX8_start yX8_start, Cond.code yX8_start cX8_start 2 none, Cond.classLink RX8 68 "java/lang/IllegalArgumentException", Cond.initialized "java/lang/IllegalArgumentException"]
def wsL_law0_r8 : List Cond := [Cond.methodLink RX8 71 yX8_goOnAt, Cond.instanceMethod yX8_goOnAt, Cond.selects RX8 yX8_goOnAt yX8_goOnAt, Cond.code yX8_goOnAt cX8_goOnAt 2 none, Cond.methodLink RL 72 yX9_start, Cond.instanceMethod yX9_start, Cond.selects RX9 yX9_start yX9_start, Cond.code yX9_start cX9_start 2 none, Cond.fieldLink RX9 50 "ScoreboardCoreModel" "word" "I", Cond.fieldLink RX9 53 "ScoreboardCoreModel" "parcel" "I", Cond.methodLink RL 73 yL_run, Cond.static yL_run, Cond.codeWith yL_run cL_run 4 (some .int) [(0, 9, 12, 30)], Cond.methodLink RL 32 yX8_run, Cond.instanceMethod yX8_run, Cond.selects RX8 yX8_run yX8_run, Cond.code yX8_run cX8_run 4 (some .int), Cond.methodLink RX8 75 yX3_keepProgram, Cond.instanceMethod yX3_keepProgram, Cond.selects RX3 yX3_keepProgram yX3_keepProgram, Cond.code yX3_keepProgram cX3_keepProgram 1 none, Cond.methodLink RX3 24 arraycopyName, Cond.native arraycopyName, Cond.static arraycopyName]
def wsL_law0_r9 : List Cond := [Cond.initialized "java/lang/System", Cond.methodLink RX8 78 yX0_empty, Cond.instanceMethod yX0_empty, Cond.selects RX0 yX0_empty yX0_empty, Cond.code yX0_empty cX0_empty 1 none, Cond.fieldLink RX0 38 "ScoreboardCore$Board" "memoryLastEnd" "I", Cond.fieldLink RX0 42 "ScoreboardCore$Board" "earliest" "I", Cond.fieldLink RX0 45 "ScoreboardCore$Board" "last" "I", Cond.methodLink RX0 32 yJ7_fill_53178, Cond.static yJ7_fill_53178, Cond.initialized RJ7, Cond.code yJ7_fill_53178 cJ7_fill_53178 4 none, Cond.methodLink RX8 81 yX8_takeNext, Cond.instanceMethod yX8_takeNext, Cond.selects RX8 yX8_takeNext yX8_takeNext, Cond.code yX8_takeNext cX8_takeNext 1 (some .boolean), Cond.methodLink RX8 99 yX3_programWord, Cond.instanceMethod yX3_programWord, Cond.selects RX3 yX3_programWord yX3_programWord, Cond.code yX3_programWord cX3_programWord 2 (some .long), Cond.methodLink RX8 102 yX1_decode, Cond.instanceMethod yX1_decode, Cond.selects RX1 yX1_decode yX1_decode, Cond.code yX1_decode cX1_decode 5 none]
def wsL_law0_r10 : List Cond := [Cond.fieldLink RX1 21 "ScoreboardCore$Instruction" "parcelsLeft" "I", Cond.fieldLink RX1 25 "ScoreboardCore$Instruction" "op" "I", Cond.fieldLink RX1 28 "ScoreboardCore$Instruction" "i" "I", Cond.fieldLink RX1 31 "ScoreboardCore$Instruction" "j" "I", Cond.fieldLink RX1 34 "ScoreboardCore$Instruction" "k" "I", Cond.constant RX1 37 (262143), Cond.fieldLink RX1 38 "ScoreboardCore$Instruction" "constant" "I", Cond.fieldLink RX1 45 "ScoreboardCore$Instruction" "unit" "I", Cond.methodLink RX1 41 yX1_unitOf, Cond.static yX1_unitOf, Cond.code yX1_unitOf cX1_unitOf 1 (some .int), Cond.methodLink RX1 48 yX5_clear, Cond.instanceMethod yX5_clear, Cond.selects RX5 yX5_clear yX5_clear, Cond.code yX5_clear cX5_clear 1 none, Cond.fieldLink RX5 15 "ScoreboardCore$RegisterList" "size" "I", Cond.methodLink RX1 51 yX1_listNeeds, Cond.instanceMethod yX1_listNeeds, Cond.selects RX1 yX1_listNeeds yX1_listNeeds, Cond.code yX1_listNeeds cX1_listNeeds 1 none, Cond.methodLink RX1 65 yX1_listLogicNeeds, Cond.instanceMethod yX1_listLogicNeeds, Cond.selects RX1 yX1_listLogicNeeds yX1_listLogicNeeds, Cond.code yX1_listLogicNeeds cX1_listLogicNeeds 1 none]
def wsL_law0_r11 : List Cond := [Cond.methodLink RX1 71 yX5_addX, Cond.instanceMethod yX5_addX, Cond.selects RX5 yX5_addX yX5_addX, Cond.code yX5_addX cX5_addX 2 none, Cond.methodLink RX5 19 yX5_add, Cond.instanceMethod yX5_add, Cond.selects RX5 yX5_add yX5_add, Cond.code yX5_add cX5_add 2 none, Cond.methodLink RX1 68 yX1_listShiftNeeds, Cond.instanceMethod yX1_listShiftNeeds, Cond.selects RX1 yX1_listShiftNeeds yX1_listShiftNeeds, Cond.code yX1_listShiftNeeds cX1_listShiftNeeds 1 none, Cond.methodLink RX1 81 yX5_addB, Cond.instanceMethod yX5_addB, Cond.selects RX5 yX5_addB yX5_addB, Cond.code yX5_addB cX5_addB 2 none, Cond.methodLink RX1 75 yX1_listAddressNeeds, Cond.instanceMethod yX1_listAddressNeeds, Cond.selects RX1 yX1_listAddressNeeds yX1_listAddressNeeds, Cond.code yX1_listAddressNeeds cX1_listAddressNeeds 1 none, Cond.methodLink RX1 84 yX5_addA, Cond.instanceMethod yX5_addA, Cond.selects RX5 yX5_addA yX5_addA, Cond.code yX5_addA cX5_addA 2 none]
def wsL_law0_r12 : List Cond := [Cond.methodLink RX1 61 yX1_parcels, Cond.instanceMethod yX1_parcels, Cond.selects RX1 yX1_parcels yX1_parcels, Cond.code yX1_parcels cX1_parcels 2 (some .int), Cond.methodLink RX1 57 yX1_isJump, Cond.instanceMethod yX1_isJump, Cond.selects RX1 yX1_isJump yX1_isJump, Cond.code yX1_isJump cX1_isJump 1 (some .boolean), Cond.methodLink RX1 87 yX1_stores, Cond.instanceMethod yX1_stores, Cond.selects RX1 yX1_stores yX1_stores, Cond.code yX1_stores cX1_stores 1 (some .boolean), Cond.methodLink RX1 78 yX1_listJumpNeeds, Cond.instanceMethod yX1_listJumpNeeds, Cond.selects RX1 yX1_listJumpNeeds yX1_listJumpNeeds, Cond.code yX1_listJumpNeeds cX1_listJumpNeeds 1 none, Cond.methodLink RX1 54 yX1_listResults, Cond.instanceMethod yX1_listResults, Cond.selects RX1 yX1_listResults yX1_listResults, Cond.code yX1_listResults cX1_listResults 1 none, Cond.methodLink RX1 90 yX1_loads, Cond.instanceMethod yX1_loads, Cond.selects RX1 yX1_loads yX1_loads, Cond.code yX1_loads cX1_loads 1 (some .boolean)]
def wsL_law0_r13 : List Cond := [Cond.methodLink RX8 106 yX1_stopCode, Cond.instanceMethod yX1_stopCode, Cond.selects RX1 yX1_stopCode yX1_stopCode, Cond.code yX1_stopCode cX1_stopCode 3 (some .int), Cond.methodLink RX8 110 yX1_isJump, Cond.methodLink RX8 113 yX8_takeJump, Cond.instanceMethod yX8_takeJump, Cond.selects RX8 yX8_takeJump yX8_takeJump, Cond.code yX8_takeJump cX8_takeJump 3 none, Cond.methodLink RX8 129 yX2_goesElsewhere, Cond.static yX2_goesElsewhere, Cond.initialized RX2, Cond.code yX2_goesElsewhere cX2_goesElsewhere 2 (some .boolean), Cond.methodLink RX2 9 yX1_op, Cond.instanceMethod yX1_op, Cond.selects RX1 yX1_op yX1_op, Cond.code yX1_op cX1_op 1 (some .int), Cond.methodLink RX2 15 yX1_i, Cond.instanceMethod yX1_i, Cond.selects RX1 yX1_i yX1_i, Cond.code yX1_i cX1_i 1 (some .int), Cond.methodLink RX2 18 yX1_j, Cond.instanceMethod yX1_j, Cond.selects RX1 yX1_j yX1_j]
def wsL_law0_r14 : List Cond := [Cond.code yX1_j cX1_j 1 (some .int), Cond.methodLink RX2 21 yX6_x, Cond.instanceMethod yX6_x, Cond.selects RX6 yX6_x yX6_x, Cond.code yX6_x cX6_x 2 (some .long), Cond.methodLink RX2 27 yX2_wordHolds, Cond.static yX2_wordHolds, Cond.code yX2_wordHolds cX2_wordHolds 3 (some .boolean), Cond.methodLink RX2 53 yX4_isZero, Cond.static yX4_isZero, Cond.initialized RX4, Cond.code yX4_isZero cX4_isZero 2 (some .boolean), Cond.constantLong RX4 17 (1152921504606846975), Cond.methodLink RX2 57 yX4_isNegative, Cond.static yX4_isNegative, Cond.code yX4_isNegative cX4_isNegative 2 (some .boolean), Cond.methodLink RX2 33 yX6_b, Cond.instanceMethod yX6_b, Cond.selects RX6 yX6_b yX6_b, Cond.code yX6_b cX6_b 2 (some .long), Cond.methodLink RX2 36 yX2_shortsHold, Cond.static yX2_shortsHold, Cond.code yX2_shortsHold cX2_shortsHold 6 (some .boolean), Cond.methodLink RX2 60 yX4_plain]
def wsL_law0_r15 : List Cond := [Cond.static yX4_plain, Cond.code yX4_plain cX4_plain 2 (some .long), Cond.constantLong RX4 25 (262143), Cond.methodLink RX4 19 yX4_isShortNegative, Cond.static yX4_isShortNegative, Cond.code yX4_isShortNegative cX4_isShortNegative 2 (some .boolean), Cond.constantLong RX4 15 (131071), Cond.methodLink RX2 64 yJ13_compare_74951, Cond.static yJ13_compare_74951, Cond.initialized RJ13, Cond.code yJ13_compare_74951 cJ13_compare_74951 4 (some .int), Cond.methodLink RX8 135 yX0_doJump, Cond.instanceMethod yX0_doJump, Cond.selects RX0 yX0_doJump yX0_doJump, Cond.code yX0_doJump cX0_doJump 5 none, Cond.methodLink RX0 69 yX1_needs, Cond.instanceMethod yX1_needs, Cond.selects RX1 yX1_needs yX1_needs, Cond.code yX1_needs cX1_needs 1 (some (.object "ScoreboardCore$RegisterList")), Cond.methodLink RX0 73 yX5_latestIn, Cond.instanceMethod yX5_latestIn, Cond.selects RX5 yX5_latestIn yX5_latestIn, Cond.code yX5_latestIn cX5_latestIn 4 (some .int), Cond.methodLink RX5 23 Lib.Math.max.name]
def wsL_law0_r16 : List Cond := [Cond.static Lib.Math.max.name, Cond.initialized "java/lang/Math", Cond.code Lib.Math.max.name Lib.Math.max.code 2 (some .int), Cond.methodLink RX0 79 yX1_op, Cond.methodLink RX0 82 yX0_waitFor, Cond.instanceMethod yX0_waitFor, Cond.selects RX0 yX0_waitFor yX0_waitFor, Cond.code yX0_waitFor cX0_waitFor 5 (some .int), Cond.methodLink RX0 118 Lib.Math.max.name, Cond.methodLink RX0 62 yX0_reach, Cond.instanceMethod yX0_reach, Cond.selects RX0 yX0_reach yX0_reach, Cond.code yX0_reach cX0_reach 2 none, Cond.methodLink RX8 126 yX8_goOnBehind, Cond.instanceMethod yX8_goOnBehind, Cond.selects RX8 yX8_goOnBehind yX8_goOnBehind, Cond.code yX8_goOnBehind cX8_goOnBehind 2 none, Cond.methodLink RX8 155 yX1_parcels, Cond.methodLink RX8 139 yX2_target, Cond.static yX2_target, Cond.code yX2_target cX2_target 2 (some .int), Cond.constantLong RX2 43 (262143), Cond.methodLink RX2 40 yX1_constant, Cond.instanceMethod yX1_constant]
def wsL_law0_r17 : List Cond := [Cond.selects RX1 yX1_constant yX1_constant, Cond.code yX1_constant cX1_constant 1 (some .int), Cond.methodLink RX2 45 yX4_sum, Cond.static yX4_sum, Cond.code yX4_sum cX4_sum 9 (some .long), Cond.methodLink RX8 143 yX1_op, Cond.methodLink RX8 146 yX1_constant, Cond.methodLink RX8 149 yX2_wayBack, Cond.static yX2_wayBack, Cond.code yX2_wayBack cX2_wayBack 1 (some .long), Cond.constantLong RX2 51 (72057594037927936), Cond.methodLink RX8 152 yX3_storeInProgram, Cond.instanceMethod yX3_storeInProgram, Cond.selects RX3 yX3_storeInProgram yX3_storeInProgram, Cond.code yX3_storeInProgram cX3_storeInProgram 4 none, Cond.methodLink RX3 30 yX3_store, Cond.methodLink RX8 116 yX0_giveOut, Cond.instanceMethod yX0_giveOut, Cond.selects RX0 yX0_giveOut yX0_giveOut, Cond.code yX0_giveOut cX0_giveOut 3 none, Cond.methodLink RX0 48 yX1_unit, Cond.instanceMethod yX1_unit, Cond.selects RX1 yX1_unit yX1_unit, Cond.code yX1_unit cX1_unit 1 (some .int)]
def wsL_law0_r18 : List Cond := [Cond.methodLink RX0 54 yX0_givenOutAt, Cond.instanceMethod yX0_givenOutAt, Cond.selects RX0 yX0_givenOutAt yX0_givenOutAt, Cond.code yX0_givenOutAt cX0_givenOutAt 5 (some .int), Cond.methodLink RX0 86 Lib.Math.min.name, Cond.static Lib.Math.min.name, Cond.code Lib.Math.min.name Lib.Math.min.code 2 (some .int), Cond.methodLink RX0 92 yX1_results, Cond.instanceMethod yX1_results, Cond.selects RX1 yX1_results yX1_results, Cond.code yX1_results cX1_results 1 (some (.object "ScoreboardCore$RegisterList")), Cond.methodLink RX0 58 yX0_occupyUnit, Cond.instanceMethod yX0_occupyUnit, Cond.selects RX0 yX0_occupyUnit yX0_occupyUnit, Cond.code yX0_occupyUnit cX0_occupyUnit 6 none, Cond.fieldLink RX0 98 "ScoreboardCore$Board" "UNIT_CYCLES" "[I", Cond.methodLink RX0 95 yX0_unitFreeAt, Cond.instanceMethod yX0_unitFreeAt, Cond.selects RX0 yX0_unitFreeAt yX0_unitFreeAt, Cond.code yX0_unitFreeAt cX0_unitFreeAt 4 (some .int), Cond.methodLink RX0 101 yX0_endsAt, Cond.instanceMethod yX0_endsAt, Cond.selects RX0 yX0_endsAt yX0_endsAt, Cond.code yX0_endsAt cX0_endsAt 4 (some .int)]
def wsL_law0_r19 : List Cond := [Cond.methodLink RX0 108 yX1_loads, Cond.methodLink RX0 112 yX1_stores, Cond.methodLink RX0 105 yX5_raiseIn, Cond.instanceMethod yX5_raiseIn, Cond.selects RX5 yX5_raiseIn yX5_raiseIn, Cond.code yX5_raiseIn cX5_raiseIn 5 none, Cond.methodLink RX0 115 yX1_i, Cond.methodLink RX0 66 yX1_parcels, Cond.methodLink RX8 120 yX7_apply, Cond.static yX7_apply, Cond.initialized RX7, Cond.code yX7_apply cX7_apply 3 none, Cond.methodLink RX7 9 yX1_unit, Cond.methodLink RX7 15 yX1_i, Cond.methodLink RX7 18 yX1_op, Cond.methodLink RX7 21 yX1_j, Cond.methodLink RX7 24 yX6_x, Cond.methodLink RX7 30 yX1_k, Cond.instanceMethod yX1_k, Cond.selects RX1 yX1_k yX1_k, Cond.code yX1_k cX1_k 1 (some .int), Cond.methodLink RX7 33 yX7_logic, Cond.static yX7_logic, Cond.code yX7_logic cX7_logic 5 (some .long)]
def wsL_law0_r20 : List Cond := [Cond.constantLong RX7 60 (-1), Cond.methodLink RX7 39 yX6_set, Cond.methodLink RX7 43 yX7_shift, Cond.static yX7_shift, Cond.code yX7_shift cX7_shift 2 (some .long), Cond.methodLink RX7 62 yX1_jk, Cond.instanceMethod yX1_jk, Cond.selects RX1 yX1_jk yX1_jk, Cond.code yX1_jk cX1_jk 1 (some .int), Cond.methodLink RX7 65 yX4_turnedRoundLeft, Cond.static yX4_turnedRoundLeft, Cond.code yX4_turnedRoundLeft cX4_turnedRoundLeft 4 (some .long), Cond.methodLink RX7 71 yX4_shiftedRight, Cond.static yX4_shiftedRight, Cond.code yX4_shiftedRight cX4_shiftedRight 5 (some .long), Cond.constantLong RX4 30 (-1152921504606846976), Cond.methodLink RX4 32 Lib.Math.min.name, Cond.methodLink RX4 27 yX4_isNegative, Cond.methodLink RX7 74 yX6_b, Cond.methodLink RX7 77 yX7_shiftBy, Cond.static yX7_shiftBy, Cond.code yX7_shiftBy cX7_shiftBy 7 (some .long), Cond.methodLink RX7 84 yX4_isShortNegative, Cond.methodLink RX7 81 yX4_highestBits]
def wsL_law0_r21 : List Cond := [Cond.static yX4_highestBits, Cond.code yX4_highestBits cX4_highestBits 1 (some .long), Cond.methodLink RX7 47 yX7_wordSum, Cond.static yX7_wordSum, Cond.code yX7_wordSum cX7_wordSum 5 (some .long), Cond.constantLong RX7 88 (1152921504606846975), Cond.methodLink RX7 90 yX4_sum, Cond.methodLink RX7 94 yX4_difference, Cond.static yX4_difference, Cond.code yX4_difference cX4_difference 6 (some .long), Cond.methodLink RX4 9 yX4_sum, Cond.methodLink RX7 50 yJ13_bitCount_95d88, Cond.static yJ13_bitCount_95d88, Cond.code yJ13_bitCount_95d88 cJ13_bitCount_95d88 2 (some .int), Cond.constantLong RJ13 314 (6148914691236517205), Cond.constantLong RJ13 316 (3689348814741910323), Cond.constantLong RJ13 318 (1085102592571150095), Cond.methodLink RX7 56 yX7_applyAddress, Cond.static yX7_applyAddress, Cond.code yX7_applyAddress cX7_applyAddress 6 none, Cond.methodLink RX7 97 yX7_shortSum, Cond.static yX7_shortSum, Cond.code yX7_shortSum cX7_shortSum 10 (some .long), Cond.constantLong RX7 126 (262143)]
def wsL_law0_r22 : List Cond := [Cond.methodLink RX7 123 yX6_a, Cond.instanceMethod yX6_a, Cond.selects RX6 yX6_a yX6_a, Cond.code yX6_a cX6_a 2 (some .long), Cond.methodLink RX7 128 yX1_constant, Cond.methodLink RX7 100 yX7_reachMemory, Cond.static yX7_reachMemory, Cond.code yX7_reachMemory cX7_reachMemory 4 none, Cond.methodLink RX7 108 yX1_loads, Cond.methodLink RX7 112 yX3_load, Cond.methodLink RX7 117 yX1_stores, Cond.methodLink RX7 120 yX3_store, Cond.methodLink RX7 104 yX4_extended, Cond.static yX4_extended, Cond.code yX4_extended cX4_extended 2 (some .long), Cond.constantLong RX4 23 (1152921504606584832), Cond.methodLink RX8 85 yX0_countCycles, Cond.instanceMethod yX0_countCycles, Cond.selects RX0 yX0_countCycles yX0_countCycles, Cond.code yX0_countCycles cX0_countCycles 1 none, Cond.fieldLink RX0 28 "ScoreboardCore$Board" "counted" "J", Cond.methodLink RL 75 yX9_run, Cond.instanceMethod yX9_run, Cond.selects RX9 yX9_run yX9_run]
def wsL_law0_r23 : List Cond := [Cond.code yX9_run cX9_run 3 (some .int), Cond.fieldLink RX9 164 "ScoreboardCoreModel" "memoryEnd" "J", Cond.fieldLink RX9 152 "ScoreboardCoreModel" "earliest" "J", Cond.fieldLink RX9 167 "ScoreboardCoreModel" "last" "J", Cond.fieldLink RX9 213 "ScoreboardCoreModel" "cycles" "J", Cond.methodLink RX9 210 yX9_one, Cond.instanceMethod yX9_one, Cond.selects RX9 yX9_one yX9_one, Cond.code yX9_one cX9_one 1 (some .boolean), Cond.fieldLink RX9 68 "ScoreboardCoreModel" "op" "I", Cond.methodLink RX9 189 yX9_halt, Cond.instanceMethod yX9_halt, Cond.selects RX9 yX9_halt yX9_halt, Cond.code yX9_halt cX9_halt 2 none, Cond.methodLink RX9 192 yX9_take, Cond.instanceMethod yX9_take, Cond.selects RX9 yX9_take yX9_take, Cond.code yX9_take cX9_take 2 none, Cond.fieldLink RX9 71 "ScoreboardCoreModel" "i" "I", Cond.fieldLink RX9 83 "ScoreboardCoreModel" "j" "I", Cond.fieldLink RX9 86 "ScoreboardCoreModel" "k" "I", Cond.fieldLink RX9 74 "ScoreboardCoreModel" "size" "I", Cond.fieldLink RX9 93 "ScoreboardCoreModel" "number" "I", Cond.methodLink RX9 79 yX9_parcelAt]
def wsL_law0_r24 : List Cond := [Cond.instanceMethod yX9_parcelAt, Cond.selects RX9 yX9_parcelAt yX9_parcelAt, Cond.code yX9_parcelAt cX9_parcelAt 2 (some .int), Cond.constantLong RX9 77 (32767), Cond.methodLink RX9 89 yX9_hasNumber, Cond.static yX9_hasNumber, Cond.code yX9_hasNumber cX9_hasNumber 1 (some .boolean), Cond.methodLink RX9 195 yX9_isUnknown, Cond.instanceMethod yX9_isUnknown, Cond.selects RX9 yX9_isUnknown yX9_isUnknown, Cond.code yX9_isUnknown cX9_isUnknown 2 (some .boolean), Cond.methodLink RX9 198 yX9_jump, Cond.instanceMethod yX9_jump, Cond.selects RX9 yX9_jump yX9_jump, Cond.code yX9_jump cX9_jump 5 none, Cond.fieldLink RX9 96 "ScoreboardCoreModel" "needs" "I", Cond.constantLong RX9 160 (8), Cond.constantLong RX9 182 (4), Cond.constantLong RX9 187 (72057594037927936), Cond.methodLink RX9 102 yX9_need, Cond.instanceMethod yX9_need, Cond.selects RX9 yX9_need yX9_need, Cond.code yX9_need cX9_need 2 none, Cond.methodLink RX9 156 yX9_freeFrom]
def wsL_law0_r25 : List Cond := [Cond.instanceMethod yX9_freeFrom, Cond.selects RX9 yX9_freeFrom yX9_freeFrom, Cond.code yX9_freeFrom cX9_freeFrom 5 (some .long), Cond.methodLink RX9 144 yX9_later, Cond.static yX9_later, Cond.code yX9_later cX9_later 4 (some .long), Cond.methodLink RX9 179 yX9_holds, Cond.instanceMethod yX9_holds, Cond.selects RX9 yX9_holds yX9_holds, Cond.code yX9_holds cX9_holds 5 (some .boolean), Cond.constantLong RX9 174 (576460752303423487), Cond.methodLink RX9 176 yX9_signed, Cond.static yX9_signed, Cond.code yX9_signed cX9_signed 4 (some .long), Cond.constantLong RX9 60 (2), Cond.methodLink RX9 184 yX9_goOn, Cond.instanceMethod yX9_goOn, Cond.selects RX9 yX9_goOn yX9_goOn, Cond.code yX9_goOn cX9_goOn 1 none, Cond.methodLink RX9 56 yX9_sum, Cond.static yX9_sum, Cond.code yX9_sum cX9_sum 8 (some .long), Cond.methodLink RX9 201 yX9_find, Cond.instanceMethod yX9_find]
def wsL_law0_r26 : List Cond := [Cond.selects RX9 yX9_find yX9_find, Cond.code yX9_find cX9_find 3 none, Cond.fieldLink RX9 99 "ScoreboardCoreModel" "gives" "I", Cond.methodLink RX9 106 yX9_give, Cond.instanceMethod yX9_give, Cond.selects RX9 yX9_give yX9_give, Cond.code yX9_give cX9_give 2 none, Cond.methodLink RX9 109 yX9_isMemory, Cond.instanceMethod yX9_isMemory, Cond.selects RX9 yX9_isMemory yX9_isMemory, Cond.code yX9_isMemory cX9_isMemory 1 (some .boolean), Cond.methodLink RX9 204 yX9_board, Cond.instanceMethod yX9_board, Cond.selects RX9 yX9_board yX9_board, Cond.code yX9_board cX9_board 15 none, Cond.constantLong RX9 162 (3), Cond.constantLong RX9 170 (6), Cond.constantLong RX9 172 (5), Cond.methodLink RX9 148 yX9_unit, Cond.instanceMethod yX9_unit, Cond.selects RX9 yX9_unit yX9_unit, Cond.code yX9_unit cX9_unit 1 (some .int), Cond.methodLink RX9 207 yX9_act, Cond.instanceMethod yX9_act]
def wsL_law0_r27 : List Cond := [Cond.selects RX9 yX9_act yX9_act, Cond.code yX9_act cX9_act 4 none, Cond.constantLong RX9 142 (512), Cond.methodLink RX9 132 yX9_reckoned, Cond.instanceMethod yX9_reckoned, Cond.selects RX9 yX9_reckoned yX9_reckoned, Cond.code yX9_reckoned cX9_reckoned 4 (some .long), Cond.methodLink RX9 122 yX9_mixed, Cond.instanceMethod yX9_mixed, Cond.selects RX9 yX9_mixed yX9_mixed, Cond.code yX9_mixed cX9_mixed 5 (some .long), Cond.methodLink RX9 126 yX9_shifted, Cond.instanceMethod yX9_shifted, Cond.selects RX9 yX9_shifted yX9_shifted, Cond.code yX9_shifted cX9_shifted 5 (some .long), Cond.constant RX9 120 (131071), Cond.constant RX9 121 (262143), Cond.methodLink RX9 113 yX9_round, Cond.static yX9_round, Cond.code yX9_round cX9_round 6 (some .long), Cond.methodLink RX9 117 yX9_right, Cond.static yX9_right, Cond.code yX9_right cX9_right 6 (some .long), Cond.constantLong RX9 66 (576460752303423488)]
def wsL_law0_r28 : List Cond := [Cond.methodLink RX9 129 yX9_less, Cond.static yX9_less, Cond.code yX9_less cX9_less 6 (some .long), Cond.methodLink RX9 135 yX9_placed, Cond.instanceMethod yX9_placed, Cond.selects RX9 yX9_placed yX9_placed, Cond.code yX9_placed cX9_placed 6 (some .long), Cond.methodLink RX9 138 yX9_extended, Cond.static yX9_extended, Cond.code yX9_extended cX9_extended 2 (some .long), Cond.constantLong RX9 62 (131071), Cond.constantLong RX9 64 (1152921504606584832), Cond.methodLink RL 76 yX8_stopped, Cond.instanceMethod yX8_stopped, Cond.selects RX8 yX8_stopped yX8_stopped, Cond.code yX8_stopped cX8_stopped 1 (some .int), Cond.methodLink RL 79 yX9_stopped, Cond.instanceMethod yX9_stopped, Cond.selects RX9 yX9_stopped yX9_stopped, Cond.code yX9_stopped cX9_stopped 1 (some .int), Cond.methodLink RL 80 yX8_place, Cond.instanceMethod yX8_place, Cond.selects RX8 yX8_place yX8_place, Cond.code yX8_place cX8_place 1 (some .int)]
def wsL_law0_r29 : List Cond := [Cond.methodLink RL 83 yX9_place, Cond.instanceMethod yX9_place, Cond.selects RX9 yX9_place yX9_place, Cond.code yX9_place cX9_place 1 (some .int), Cond.methodLink RL 84 yX8_cycles, Cond.instanceMethod yX8_cycles, Cond.selects RX8 yX8_cycles yX8_cycles, Cond.code yX8_cycles cX8_cycles 1 (some .long), Cond.methodLink RX8 88 yX0_cyclesCounted, Cond.instanceMethod yX0_cyclesCounted, Cond.selects RX0 yX0_cyclesCounted yX0_cyclesCounted, Cond.code yX0_cyclesCounted cX0_cyclesCounted 1 (some .long), Cond.methodLink RL 88 yX9_cycles, Cond.instanceMethod yX9_cycles, Cond.selects RX9 yX9_cycles yX9_cycles, Cond.code yX9_cycles cX9_cycles 1 (some .long), Cond.methodLink RL 89 yL_done, Cond.static yL_done, Cond.codeWith yL_done cL_done 4 (some .int) [(0, 9, 12, 30)], Cond.methodLink RL 36 yX8_done, Cond.instanceMethod yX8_done, Cond.selects RX8 yX8_done yX8_done, Cond.code yX8_done cX8_done 2 (some .int), Cond.methodLink RX8 92 yX0_doneBy]
def wsL_law0_r30 : List Cond := [Cond.instanceMethod yX0_doneBy, Cond.selects RX0 yX0_doneBy yX0_doneBy, Cond.code yX0_doneBy cX0_doneBy 2 (some .int), Cond.methodLink RL 91 yX9_done, Cond.instanceMethod yX9_done, Cond.selects RX9 yX9_done yX9_done, Cond.code yX9_done cX9_done 2 (some .int), Cond.methodLink RL 92 yL_waited, Cond.static yL_waited, Cond.codeWith yL_waited cL_waited 4 (some .int) [(0, 8, 11, 30)], Cond.methodLink RL 39 yX8_waited, Cond.instanceMethod yX8_waited, Cond.selects RX8 yX8_waited yX8_waited, Cond.code yX8_waited cX8_waited 2 (some .long), Cond.methodLink RX8 96 yX0_waitedFor, Cond.instanceMethod yX0_waitedFor, Cond.selects RX0 yX0_waitedFor yX0_waitedFor, Cond.code yX0_waitedFor cX0_waitedFor 2 (some .long), Cond.methodLink RL 94 yX9_waited, Cond.instanceMethod yX9_waited, Cond.selects RX9 yX9_waited yX9_waited, Cond.code yX9_waited cX9_waited 2 (some .long)]
def wsL_law0 : List Cond := (wsL_law0_r1 ++ (wsL_law0_r2 ++ (wsL_law0_r3 ++ (wsL_law0_r4 ++ (wsL_law0_r5 ++ (wsL_law0_r6 ++ (wsL_law0_r7 ++ (wsL_law0_r8 ++ (wsL_law0_r9 ++ (wsL_law0_r10 ++ (wsL_law0_r11 ++ (wsL_law0_r12 ++ (wsL_law0_r13 ++ (wsL_law0_r14 ++ (wsL_law0_r15 ++ (wsL_law0_r16 ++ (wsL_law0_r17 ++ (wsL_law0_r18 ++ (wsL_law0_r19 ++ (wsL_law0_r20 ++ (wsL_law0_r21 ++ (wsL_law0_r22 ++ (wsL_law0_r23 ++ (wsL_law0_r24 ++ (wsL_law0_r25 ++ (wsL_law0_r26 ++ (wsL_law0_r27 ++ (wsL_law0_r28 ++ (wsL_law0_r29 ++ wsL_law0_r30))))))))))))))))))))))))))))) ++ wsX80 ++ wsX90 ++ wsX30 ++ wsX60 ++ wsX00 ++ wsX10 ++ wsX50 ++ ([] : List Cond)
def wsL_law : List Cond := wsL_law0 ++ (vx_at0 RX8 53 "java/lang/IndexOutOfBoundsException" ["java/lang/RuntimeException", "java/lang/Exception"]).filter goodWord ++ (vx_at0 RX8 70 "java/lang/IllegalArgumentException" ["java/lang/RuntimeException", "java/lang/Exception"]).filter goodWord
end
section
theorem dX0_init_0 : decode cX0_init 0 = .ok (.aload_n 0, 1) := by decide +kernel
theorem dX0_init_1 : decode cX0_init 1 = .ok (.invokespecial 3, 3) := by decide +kernel
theorem dX0_init_4 : decode cX0_init 4 = .ok (.aload_n 0, 1) := by decide +kernel
theorem dX0_init_5 : decode cX0_init 5 = .ok (.bipush 8, 2) := by decide +kernel
theorem dX0_init_7 : decode cX0_init 7 = .ok (.newarray .int, 2) := by decide +kernel
theorem dX0_init_9 : decode cX0_init 9 = .ok (.putfield 11, 3) := by decide +kernel
theorem dX0_init_12 : decode cX0_init 12 = .ok (.aload_n 0, 1) := by decide +kernel
theorem dX0_init_13 : decode cX0_init 13 = .ok (.iconst 5, 1) := by decide +kernel
theorem dX0_init_14 : decode cX0_init 14 = .ok (.newarray .long, 2) := by decide +kernel
theorem dX0_init_16 : decode cX0_init 16 = .ok (.putfield 15, 3) := by decide +kernel
theorem dX0_init_19 : decode cX0_init 19 = .ok (.aload_n 0, 1) := by decide +kernel
theorem dX0_init_20 : decode cX0_init 20 = .ok (.bipush 6, 2) := by decide +kernel
theorem dX0_init_22 : decode cX0_init 22 = .ok (.newarray .int, 2) := by decide +kernel
theorem dX0_init_24 : decode cX0_init 24 = .ok (.putfield 19, 3) := by decide +kernel
theorem dX0_init_27 : decode cX0_init 27 = .ok (.aload_n 0, 1) := by decide +kernel
theorem dX0_init_28 : decode cX0_init 28 = .ok (.bipush 24, 2) := by decide +kernel
theorem dX0_init_30 : decode cX0_init 30 = .ok (.newarray .int, 2) := by decide +kernel
theorem dX0_init_32 : decode cX0_init 32 = .ok (.putfield 22, 3) := by decide +kernel
theorem dX0_init_35 : decode cX0_init 35 = .ok (.aload_n 0, 1) := by decide +kernel
theorem dX0_init_36 : decode cX0_init 36 = .ok (.bipush 24, 2) := by decide +kernel
theorem dX0_init_38 : decode cX0_init 38 = .ok (.newarray .int, 2) := by decide +kernel
theorem dX0_init_40 : decode cX0_init 40 = .ok (.putfield 25, 3) := by decide +kernel
theorem dX0_init_43 : decode cX0_init 43 = .ok (.return_, 1) := by decide +kernel
theorem dX0_doneBy_0 : decode cX0_doneBy 0 = .ok (.aload_n 0, 1) := by decide +kernel
theorem dX0_doneBy_1 : decode cX0_doneBy 1 = .ok (.getfield 11, 3) := by decide +kernel
theorem dX0_doneBy_4 : decode cX0_doneBy 4 = .ok (.iload_n 1, 1) := by decide +kernel
theorem dX0_doneBy_5 : decode cX0_doneBy 5 = .ok (.iaload, 1) := by decide +kernel
theorem dX0_doneBy_6 : decode cX0_doneBy 6 = .ok (.ireturn, 1) := by decide +kernel
theorem dX0_waitedFor_0 : decode cX0_waitedFor 0 = .ok (.aload_n 0, 1) := by decide +kernel
theorem dX0_waitedFor_1 : decode cX0_waitedFor 1 = .ok (.getfield 15, 3) := by decide +kernel
theorem dX0_waitedFor_4 : decode cX0_waitedFor 4 = .ok (.iload_n 1, 1) := by decide +kernel
theorem dX0_waitedFor_5 : decode cX0_waitedFor 5 = .ok (.laload, 1) := by decide +kernel
theorem dX0_waitedFor_6 : decode cX0_waitedFor 6 = .ok (.lreturn, 1) := by decide +kernel
theorem dX0_cyclesCounted_0 : decode cX0_cyclesCounted 0 = .ok (.aload_n 0, 1) := by decide +kernel
theorem dX0_cyclesCounted_1 : decode cX0_cyclesCounted 1 = .ok (.getfield 28, 3) := by decide +kernel
theorem dX0_cyclesCounted_4 : decode cX0_cyclesCounted 4 = .ok (.lreturn, 1) := by decide +kernel
set_option maxRecDepth 20000 in
theorem ggX0_empty_J7_fill_53178 : GoodIn wsX0_empty wsJ7_fill_53178 := goodIn_r _ [10] (by decide +kernel) (by decide +kernel)
set_option maxRecDepth 20000 in
theorem gX0_empty_J7_fill_53178 : GoodIn wsX0_empty (va_wsS RX0 32 yJ7_fill_53178 wsJ7_fill_53178) := goodIn_app (goodIn_of _ (by decide +kernel)) ggX0_empty_J7_fill_53178
theorem dX0_empty_0 : decode cX0_empty 0 = .ok (.aload_n 0, 1) := by decide +kernel
theorem dX0_empty_1 : decode cX0_empty 1 = .ok (.getfield 19, 3) := by decide +kernel
theorem dX0_empty_4 : decode cX0_empty 4 = .ok (.iconst 0, 1) := by decide +kernel
theorem dX0_empty_5 : decode cX0_empty 5 = .ok (.invokestatic 32, 3) := by decide +kernel
theorem dX0_empty_8 : decode cX0_empty 8 = .ok (.aload_n 0, 1) := by decide +kernel
theorem dX0_empty_9 : decode cX0_empty 9 = .ok (.getfield 22, 3) := by decide +kernel
theorem dX0_empty_12 : decode cX0_empty 12 = .ok (.iconst 0, 1) := by decide +kernel
theorem dX0_empty_13 : decode cX0_empty 13 = .ok (.invokestatic 32, 3) := by decide +kernel
theorem dX0_empty_16 : decode cX0_empty 16 = .ok (.aload_n 0, 1) := by decide +kernel
theorem dX0_empty_17 : decode cX0_empty 17 = .ok (.getfield 25, 3) := by decide +kernel
theorem dX0_empty_20 : decode cX0_empty 20 = .ok (.iconst 0, 1) := by decide +kernel
theorem dX0_empty_21 : decode cX0_empty 21 = .ok (.invokestatic 32, 3) := by decide +kernel
theorem dX0_empty_24 : decode cX0_empty 24 = .ok (.aload_n 0, 1) := by decide +kernel
theorem dX0_empty_25 : decode cX0_empty 25 = .ok (.iconst 0, 1) := by decide +kernel
theorem dX0_empty_26 : decode cX0_empty 26 = .ok (.putfield 38, 3) := by decide +kernel
theorem dX0_empty_29 : decode cX0_empty 29 = .ok (.aload_n 0, 1) := by decide +kernel
theorem dX0_empty_30 : decode cX0_empty 30 = .ok (.iconst 1, 1) := by decide +kernel
theorem dX0_empty_31 : decode cX0_empty 31 = .ok (.putfield 42, 3) := by decide +kernel
theorem dX0_empty_34 : decode cX0_empty 34 = .ok (.aload_n 0, 1) := by decide +kernel
theorem dX0_empty_35 : decode cX0_empty 35 = .ok (.iconst 0, 1) := by decide +kernel
theorem dX0_empty_36 : decode cX0_empty 36 = .ok (.putfield 45, 3) := by decide +kernel
theorem dX0_empty_39 : decode cX0_empty 39 = .ok (.return_, 1) := by decide +kernel
theorem dX0_countCycles_0 : decode cX0_countCycles 0 = .ok (.aload_n 0, 1) := by decide +kernel
theorem dX0_countCycles_1 : decode cX0_countCycles 1 = .ok (.dup, 1) := by decide +kernel
theorem dX0_countCycles_2 : decode cX0_countCycles 2 = .ok (.getfield 28, 3) := by decide +kernel
theorem dX0_countCycles_5 : decode cX0_countCycles 5 = .ok (.aload_n 0, 1) := by decide +kernel
theorem dX0_countCycles_6 : decode cX0_countCycles 6 = .ok (.getfield 45, 3) := by decide +kernel
theorem dX0_countCycles_9 : decode cX0_countCycles 9 = .ok (.i2l, 1) := by decide +kernel
theorem dX0_countCycles_10 : decode cX0_countCycles 10 = .ok (.ladd, 1) := by decide +kernel
theorem dX0_countCycles_11 : decode cX0_countCycles 11 = .ok (.putfield 28, 3) := by decide +kernel
theorem dX0_countCycles_14 : decode cX0_countCycles 14 = .ok (.return_, 1) := by decide +kernel
set_option maxRecDepth 20000 in
theorem ggX0_giveOut_X1_unit : GoodIn wsX0_giveOut wsX1_unit := goodIn_r _ [6, 7, 101, 102, 103, 104, 105, 106, 107, 108, 109] (by decide +kernel) (by decide +kernel)
set_option maxRecDepth 20000 in
theorem gX0_giveOut_X1_unit : GoodIn wsX0_giveOut (wsV RX0 48 RX1 yX1_unit wsX1_unit) := goodIn_app (goodIn_of _ (by decide +kernel)) ggX0_giveOut_X1_unit
set_option maxRecDepth 20000 in
theorem ggX0_giveOut_X0_givenOutAt : GoodIn wsX0_giveOut wsX0_givenOutAt := goodIn_r _ [12, 13, 14, 15, 16, 17, 1, 18, 2, 3, 4, 5, 6, 7, 19, 20, 21, 11, 22, 23, 24, 25, 26, 27, 28, 29, 30, 31, 32, 33, 34, 35, 36, 37, 38, 39, 92, 93, 94, 95, 96, 97, 98, 99, 100, 101, 102, 103, 104, 105, 106, 107, 108, 109, 110, 111] (by decide +kernel) (by decide +kernel)
set_option maxRecDepth 20000 in
theorem gX0_giveOut_X0_givenOutAt : GoodIn wsX0_giveOut (wsV RX0 54 RX0 yX0_givenOutAt wsX0_givenOutAt) := goodIn_app (goodIn_of _ (by decide +kernel)) ggX0_giveOut_X0_givenOutAt
set_option maxRecDepth 20000 in
theorem ggX0_giveOut_X0_occupyUnit : GoodIn wsX0_giveOut wsX0_occupyUnit := goodIn_r _ [43, 18, 44, 45, 13, 46, 47, 2, 3, 4, 5, 6, 7, 48, 49, 50, 11, 51, 52, 53, 54, 55, 56, 32, 33, 34, 35, 36, 37, 38, 39, 24, 16, 25, 19, 20, 21, 22, 23, 26, 57, 58, 59, 60, 27, 28, 29, 30, 31, 61, 62, 63, 64, 65, 66, 67, 68, 69, 70, 71, 72, 73, 74, 75, 76, 77, 78, 79, 80, 81, 82, 83, 92, 93, 94, 95, 96, 97, 98, 99, 100, 101, 102, 103, 104, 105, 106, 107, 108, 109, 110, 111] (by decide +kernel) (by decide +kernel)
set_option maxRecDepth 20000 in
theorem gX0_giveOut_X0_occupyUnit : GoodIn wsX0_giveOut (wsV RX0 58 RX0 yX0_occupyUnit wsX0_occupyUnit) := goodIn_app (goodIn_of _ (by decide +kernel)) ggX0_giveOut_X0_occupyUnit
set_option maxRecDepth 20000 in
theorem ggX0_giveOut_X0_reach : GoodIn wsX0_giveOut wsX0_reach := goodIn_r _ [78, 79, 23, 24, 16, 25, 92, 93, 94, 95, 96, 97, 98, 99, 100] (by decide +kernel) (by decide +kernel)
set_option maxRecDepth 20000 in
theorem gX0_giveOut_X0_reach : GoodIn wsX0_giveOut (wsV RX0 62 RX0 yX0_reach wsX0_reach) := goodIn_app (goodIn_of _ (by decide +kernel)) ggX0_giveOut_X0_reach
set_option maxRecDepth 20000 in
theorem ggX0_giveOut_X1_parcels : GoodIn wsX0_giveOut wsX1_parcels := goodIn_r _ [87, 65, 88, 89, 90, 5, 91, 101, 102, 103, 104, 105, 106, 107, 108, 109] (by decide +kernel) (by decide +kernel)
set_option maxRecDepth 20000 in
theorem gX0_giveOut_X1_parcels : GoodIn wsX0_giveOut (wsV RX0 66 RX1 yX1_parcels wsX1_parcels) := goodIn_app (goodIn_of _ (by decide +kernel)) ggX0_giveOut_X1_parcels
theorem dX0_giveOut_0 : decode cX0_giveOut 0 = .ok (.aload_n 0, 1) := by decide +kernel
theorem dX0_giveOut_1 : decode cX0_giveOut 1 = .ok (.getfield 42, 3) := by decide +kernel
theorem dX0_giveOut_4 : decode cX0_giveOut 4 = .ok (.istore_n 2, 1) := by decide +kernel
theorem dX0_giveOut_5 : decode cX0_giveOut 5 = .ok (.aload_n 1, 1) := by decide +kernel
theorem dX0_giveOut_6 : decode cX0_giveOut 6 = .ok (.invokevirtual 48, 3) := by decide +kernel
theorem dX0_giveOut_9 : decode cX0_giveOut 9 = .ok (.iconst (-1), 1) := by decide +kernel
theorem dX0_giveOut_10 : decode cX0_giveOut 10 = .ok (.if_icmp .eq 15, 3) := by decide +kernel
theorem dX0_giveOut_13 : decode cX0_giveOut 13 = .ok (.aload_n 0, 1) := by decide +kernel
theorem dX0_giveOut_14 : decode cX0_giveOut 14 = .ok (.aload_n 1, 1) := by decide +kernel
theorem dX0_giveOut_15 : decode cX0_giveOut 15 = .ok (.invokevirtual 54, 3) := by decide +kernel
theorem dX0_giveOut_18 : decode cX0_giveOut 18 = .ok (.istore_n 2, 1) := by decide +kernel
theorem dX0_giveOut_19 : decode cX0_giveOut 19 = .ok (.aload_n 0, 1) := by decide +kernel
theorem dX0_giveOut_20 : decode cX0_giveOut 20 = .ok (.aload_n 1, 1) := by decide +kernel
theorem dX0_giveOut_21 : decode cX0_giveOut 21 = .ok (.iload_n 2, 1) := by decide +kernel
theorem dX0_giveOut_22 : decode cX0_giveOut 22 = .ok (.invokevirtual 58, 3) := by decide +kernel
theorem dX0_giveOut_25 : decode cX0_giveOut 25 = .ok (.aload_n 0, 1) := by decide +kernel
theorem dX0_giveOut_26 : decode cX0_giveOut 26 = .ok (.iload_n 2, 1) := by decide +kernel
theorem dX0_giveOut_27 : decode cX0_giveOut 27 = .ok (.invokevirtual 62, 3) := by decide +kernel
theorem dX0_giveOut_30 : decode cX0_giveOut 30 = .ok (.aload_n 0, 1) := by decide +kernel
theorem dX0_giveOut_31 : decode cX0_giveOut 31 = .ok (.iload_n 2, 1) := by decide +kernel
theorem dX0_giveOut_32 : decode cX0_giveOut 32 = .ok (.aload_n 1, 1) := by decide +kernel
theorem dX0_giveOut_33 : decode cX0_giveOut 33 = .ok (.invokevirtual 66, 3) := by decide +kernel
theorem dX0_giveOut_36 : decode cX0_giveOut 36 = .ok (.iadd, 1) := by decide +kernel
theorem dX0_giveOut_37 : decode cX0_giveOut 37 = .ok (.putfield 42, 3) := by decide +kernel
theorem dX0_giveOut_40 : decode cX0_giveOut 40 = .ok (.return_, 1) := by decide +kernel
set_option maxRecDepth 20000 in
theorem ggX0_doJump_X1_needs : GoodIn wsX0_doJump wsX1_needs := goodIn_r _ [9, 10, 48, 49, 50, 51, 52, 53, 54, 55, 56] (by decide +kernel) (by decide +kernel)
set_option maxRecDepth 20000 in
theorem gX0_doJump_X1_needs : GoodIn wsX0_doJump (wsV RX0 69 RX1 yX1_needs wsX1_needs) := goodIn_app (goodIn_of _ (by decide +kernel)) ggX0_doJump_X1_needs
set_option maxRecDepth 20000 in
theorem ggX0_doJump_X5_latestIn : GoodIn wsX0_doJump wsX5_latestIn := goodIn_r _ [15, 16, 17, 18, 19, 20, 21, 57, 58] (by decide +kernel) (by decide +kernel)
set_option maxRecDepth 20000 in
theorem gX0_doJump_X5_latestIn : GoodIn wsX0_doJump (wsV RX0 73 RX5 yX5_latestIn wsX5_latestIn) := goodIn_app (goodIn_of _ (by decide +kernel)) ggX0_doJump_X5_latestIn
set_option maxRecDepth 20000 in
theorem ggX0_doJump_X1_op : GoodIn wsX0_doJump wsX1_op := goodIn_r _ [25, 26, 48, 49, 50, 51, 52, 53, 54, 55, 56] (by decide +kernel) (by decide +kernel)
set_option maxRecDepth 20000 in
theorem gX0_doJump_X1_op : GoodIn wsX0_doJump (wsV RX0 79 RX1 yX1_op wsX1_op) := goodIn_app (goodIn_of _ (by decide +kernel)) ggX0_doJump_X1_op
set_option maxRecDepth 20000 in
theorem ggX0_doJump_X0_waitFor : GoodIn wsX0_doJump wsX0_waitFor := goodIn_r _ [31, 32, 19, 20, 21, 33, 39, 40, 41, 42, 43, 44, 45, 46, 47] (by decide +kernel) (by decide +kernel)
set_option maxRecDepth 20000 in
theorem gX0_doJump_X0_waitFor : GoodIn wsX0_doJump (wsV RX0 82 RX0 yX0_waitFor wsX0_waitFor) := goodIn_app (goodIn_of _ (by decide +kernel)) ggX0_doJump_X0_waitFor
set_option maxRecDepth 20000 in
theorem ggX0_doJump_X0_reach : GoodIn wsX0_doJump wsX0_reach := goodIn_r _ [37, 38, 32, 19, 20, 21, 39, 40, 41, 42, 43, 44, 45, 46, 47] (by decide +kernel) (by decide +kernel)
set_option maxRecDepth 20000 in
theorem gX0_doJump_X0_reach : GoodIn wsX0_doJump (wsV RX0 62 RX0 yX0_reach wsX0_reach) := goodIn_app (goodIn_of _ (by decide +kernel)) ggX0_doJump_X0_reach
theorem dX0_doJump_0 : decode cX0_doJump 0 = .ok (.aload_n 1, 1) := by decide +kernel
theorem dX0_doJump_1 : decode cX0_doJump 1 = .ok (.invokevirtual 69, 3) := by decide +kernel
theorem dX0_doJump_4 : decode cX0_doJump 4 = .ok (.aload_n 0, 1) := by decide +kernel
theorem dX0_doJump_5 : decode cX0_doJump 5 = .ok (.getfield 22, 3) := by decide +kernel
theorem dX0_doJump_8 : decode cX0_doJump 8 = .ok (.invokevirtual 73, 3) := by decide +kernel
theorem dX0_doJump_11 : decode cX0_doJump 11 = .ok (.istore_n 3, 1) := by decide +kernel
theorem dX0_doJump_12 : decode cX0_doJump 12 = .ok (.aload_n 1, 1) := by decide +kernel
theorem dX0_doJump_13 : decode cX0_doJump 13 = .ok (.invokevirtual 79, 3) := by decide +kernel
theorem dX0_doJump_16 : decode cX0_doJump 16 = .ok (.iconst 1, 1) := by decide +kernel
theorem dX0_doJump_17 : decode cX0_doJump 17 = .ok (.if_icmp .ne 10, 3) := by decide +kernel
theorem dX0_doJump_20 : decode cX0_doJump 20 = .ok (.aload_n 0, 1) := by decide +kernel
theorem dX0_doJump_21 : decode cX0_doJump 21 = .ok (.getfield 38, 3) := by decide +kernel
theorem dX0_doJump_24 : decode cX0_doJump 24 = .ok (.iconst 1, 1) := by decide +kernel
theorem dX0_doJump_25 : decode cX0_doJump 25 = .ok (.iadd, 1) := by decide +kernel
theorem dX0_doJump_26 : decode cX0_doJump 26 = .ok (.istore_n 3, 1) := by decide +kernel
theorem dX0_doJump_27 : decode cX0_doJump 27 = .ok (.aload_n 0, 1) := by decide +kernel
theorem dX0_doJump_28 : decode cX0_doJump 28 = .ok (.aload_n 0, 1) := by decide +kernel
theorem dX0_doJump_29 : decode cX0_doJump 29 = .ok (.getfield 42, 3) := by decide +kernel
theorem dX0_doJump_32 : decode cX0_doJump 32 = .ok (.iload_n 3, 1) := by decide +kernel
theorem dX0_doJump_33 : decode cX0_doJump 33 = .ok (.iconst 2, 1) := by decide +kernel
theorem dX0_doJump_34 : decode cX0_doJump 34 = .ok (.invokevirtual 82, 3) := by decide +kernel
theorem dX0_doJump_37 : decode cX0_doJump 37 = .ok (.istore 4, 2) := by decide +kernel
theorem dX0_doJump_39 : decode cX0_doJump 39 = .ok (.aload_n 0, 1) := by decide +kernel
theorem dX0_doJump_40 : decode cX0_doJump 40 = .ok (.iload 4, 2) := by decide +kernel
theorem dX0_doJump_42 : decode cX0_doJump 42 = .ok (.invokevirtual 62, 3) := by decide +kernel
theorem dX0_doJump_45 : decode cX0_doJump 45 = .ok (.aload_n 0, 1) := by decide +kernel
theorem dX0_doJump_46 : decode cX0_doJump 46 = .ok (.getfield 11, 3) := by decide +kernel
theorem dX0_doJump_49 : decode cX0_doJump 49 = .ok (.bipush 6, 2) := by decide +kernel
theorem dX0_doJump_51 : decode cX0_doJump 51 = .ok (.dup2, 1) := by decide +kernel
theorem dX0_doJump_52 : decode cX0_doJump 52 = .ok (.iaload, 1) := by decide +kernel
theorem dX0_doJump_53 : decode cX0_doJump 53 = .ok (.iconst 1, 1) := by decide +kernel
theorem dX0_doJump_54 : decode cX0_doJump 54 = .ok (.iadd, 1) := by decide +kernel
theorem dX0_doJump_55 : decode cX0_doJump 55 = .ok (.iastore, 1) := by decide +kernel
theorem dX0_doJump_56 : decode cX0_doJump 56 = .ok (.iload_n 2, 1) := by decide +kernel
theorem dX0_doJump_57 : decode cX0_doJump 57 = .ok (.ifCond .eq 14, 3) := by decide +kernel
theorem dX0_doJump_60 : decode cX0_doJump 60 = .ok (.aload_n 0, 1) := by decide +kernel
theorem dX0_doJump_61 : decode cX0_doJump 61 = .ok (.getfield 11, 3) := by decide +kernel
theorem dX0_doJump_64 : decode cX0_doJump 64 = .ok (.bipush 7, 2) := by decide +kernel
theorem dX0_doJump_66 : decode cX0_doJump 66 = .ok (.dup2, 1) := by decide +kernel
theorem dX0_doJump_67 : decode cX0_doJump 67 = .ok (.iaload, 1) := by decide +kernel
theorem dX0_doJump_68 : decode cX0_doJump 68 = .ok (.iconst 1, 1) := by decide +kernel
theorem dX0_doJump_69 : decode cX0_doJump 69 = .ok (.iadd, 1) := by decide +kernel
theorem dX0_doJump_70 : decode cX0_doJump 70 = .ok (.iastore, 1) := by decide +kernel
theorem dX0_doJump_71 : decode cX0_doJump 71 = .ok (.aload_n 0, 1) := by decide +kernel
theorem dX0_doJump_72 : decode cX0_doJump 72 = .ok (.iload 4, 2) := by decide +kernel
theorem dX0_doJump_74 : decode cX0_doJump 74 = .ok (.iload_n 2, 1) := by decide +kernel
theorem dX0_doJump_75 : decode cX0_doJump 75 = .ok (.ifCond .eq 8, 3) := by decide +kernel
theorem dX0_doJump_78 : decode cX0_doJump 78 = .ok (.bipush 8, 2) := by decide +kernel
theorem dX0_doJump_80 : decode cX0_doJump 80 = .ok (.goto 4, 3) := by decide +kernel
theorem dX0_doJump_83 : decode cX0_doJump 83 = .ok (.iconst 4, 1) := by decide +kernel
theorem dX0_doJump_84 : decode cX0_doJump 84 = .ok (.iadd, 1) := by decide +kernel
theorem dX0_doJump_85 : decode cX0_doJump 85 = .ok (.putfield 42, 3) := by decide +kernel
theorem dX0_doJump_88 : decode cX0_doJump 88 = .ok (.return_, 1) := by decide +kernel
set_option maxRecDepth 20000 in
theorem ggX0_givenOutAt_X1_unit : GoodIn wsX0_givenOutAt wsX1_unit := goodIn_r _ [12, 13, 45, 46, 47, 48, 49, 50, 51, 52, 53] (by decide +kernel) (by decide +kernel)
set_option maxRecDepth 20000 in
theorem gX0_givenOutAt_X1_unit : GoodIn wsX0_givenOutAt (wsV RX0 48 RX1 yX1_unit wsX1_unit) := goodIn_app (goodIn_of _ (by decide +kernel)) ggX0_givenOutAt_X1_unit
set_option maxRecDepth 20000 in
theorem ggX0_givenOutAt_X0_waitFor : GoodIn wsX0_givenOutAt wsX0_waitFor := goodIn_r _ [18, 19, 20, 4, 21, 22, 36, 37, 38, 39, 40, 41, 42, 43, 44] (by decide +kernel) (by decide +kernel)
set_option maxRecDepth 20000 in
theorem gX0_givenOutAt_X0_waitFor : GoodIn wsX0_givenOutAt (wsV RX0 82 RX0 yX0_waitFor wsX0_waitFor) := goodIn_app (goodIn_of _ (by decide +kernel)) ggX0_givenOutAt_X0_waitFor
set_option maxRecDepth 20000 in
theorem ggX0_givenOutAt_X1_results : GoodIn wsX0_givenOutAt wsX1_results := goodIn_r _ [26, 27, 45, 46, 47, 48, 49, 50, 51, 52, 53] (by decide +kernel) (by decide +kernel)
set_option maxRecDepth 20000 in
theorem gX0_givenOutAt_X1_results : GoodIn wsX0_givenOutAt (wsV RX0 92 RX1 yX1_results wsX1_results) := goodIn_app (goodIn_of _ (by decide +kernel)) ggX0_givenOutAt_X1_results
set_option maxRecDepth 20000 in
theorem ggX0_givenOutAt_X5_latestIn : GoodIn wsX0_givenOutAt wsX5_latestIn := goodIn_r _ [32, 33, 34, 35, 20, 4, 21, 54, 55] (by decide +kernel) (by decide +kernel)
set_option maxRecDepth 20000 in
theorem gX0_givenOutAt_X5_latestIn : GoodIn wsX0_givenOutAt (wsV RX0 73 RX5 yX5_latestIn wsX5_latestIn) := goodIn_app (goodIn_of _ (by decide +kernel)) ggX0_givenOutAt_X5_latestIn
theorem dX0_givenOutAt_0 : decode cX0_givenOutAt 0 = .ok (.aload_n 1, 1) := by decide +kernel
theorem dX0_givenOutAt_1 : decode cX0_givenOutAt 1 = .ok (.invokevirtual 48, 3) := by decide +kernel
theorem dX0_givenOutAt_4 : decode cX0_givenOutAt 4 = .ok (.istore_n 2, 1) := by decide +kernel
theorem dX0_givenOutAt_5 : decode cX0_givenOutAt 5 = .ok (.aload_n 0, 1) := by decide +kernel
theorem dX0_givenOutAt_6 : decode cX0_givenOutAt 6 = .ok (.getfield 19, 3) := by decide +kernel
theorem dX0_givenOutAt_9 : decode cX0_givenOutAt 9 = .ok (.iload_n 2, 1) := by decide +kernel
theorem dX0_givenOutAt_10 : decode cX0_givenOutAt 10 = .ok (.iaload, 1) := by decide +kernel
theorem dX0_givenOutAt_11 : decode cX0_givenOutAt 11 = .ok (.istore_n 3, 1) := by decide +kernel
theorem dX0_givenOutAt_12 : decode cX0_givenOutAt 12 = .ok (.iload_n 2, 1) := by decide +kernel
theorem dX0_givenOutAt_13 : decode cX0_givenOutAt 13 = .ok (.iconst 4, 1) := by decide +kernel
theorem dX0_givenOutAt_14 : decode cX0_givenOutAt 14 = .ok (.if_icmp .ne 14, 3) := by decide +kernel
theorem dX0_givenOutAt_17 : decode cX0_givenOutAt 17 = .ok (.iload_n 3, 1) := by decide +kernel
theorem dX0_givenOutAt_18 : decode cX0_givenOutAt 18 = .ok (.aload_n 0, 1) := by decide +kernel
theorem dX0_givenOutAt_19 : decode cX0_givenOutAt 19 = .ok (.getfield 19, 3) := by decide +kernel
theorem dX0_givenOutAt_22 : decode cX0_givenOutAt 22 = .ok (.iconst 5, 1) := by decide +kernel
theorem dX0_givenOutAt_23 : decode cX0_givenOutAt 23 = .ok (.iaload, 1) := by decide +kernel
theorem dX0_givenOutAt_24 : decode cX0_givenOutAt 24 = .ok (.invokestatic 86, 3) := by decide +kernel
theorem dX0_givenOutAt_27 : decode cX0_givenOutAt 27 = .ok (.istore_n 3, 1) := by decide +kernel
theorem dX0_givenOutAt_28 : decode cX0_givenOutAt 28 = .ok (.aload_n 0, 1) := by decide +kernel
theorem dX0_givenOutAt_29 : decode cX0_givenOutAt 29 = .ok (.aload_n 0, 1) := by decide +kernel
theorem dX0_givenOutAt_30 : decode cX0_givenOutAt 30 = .ok (.getfield 42, 3) := by decide +kernel
theorem dX0_givenOutAt_33 : decode cX0_givenOutAt 33 = .ok (.iload_n 3, 1) := by decide +kernel
theorem dX0_givenOutAt_34 : decode cX0_givenOutAt 34 = .ok (.iconst 0, 1) := by decide +kernel
theorem dX0_givenOutAt_35 : decode cX0_givenOutAt 35 = .ok (.invokevirtual 82, 3) := by decide +kernel
theorem dX0_givenOutAt_38 : decode cX0_givenOutAt 38 = .ok (.istore 4, 2) := by decide +kernel
theorem dX0_givenOutAt_40 : decode cX0_givenOutAt 40 = .ok (.aload_n 0, 1) := by decide +kernel
theorem dX0_givenOutAt_41 : decode cX0_givenOutAt 41 = .ok (.iload 4, 2) := by decide +kernel
theorem dX0_givenOutAt_43 : decode cX0_givenOutAt 43 = .ok (.aload_n 1, 1) := by decide +kernel
theorem dX0_givenOutAt_44 : decode cX0_givenOutAt 44 = .ok (.invokevirtual 92, 3) := by decide +kernel
theorem dX0_givenOutAt_47 : decode cX0_givenOutAt 47 = .ok (.aload_n 0, 1) := by decide +kernel
theorem dX0_givenOutAt_48 : decode cX0_givenOutAt 48 = .ok (.getfield 22, 3) := by decide +kernel
theorem dX0_givenOutAt_51 : decode cX0_givenOutAt 51 = .ok (.invokevirtual 73, 3) := by decide +kernel
theorem dX0_givenOutAt_54 : decode cX0_givenOutAt 54 = .ok (.iconst 1, 1) := by decide +kernel
theorem dX0_givenOutAt_55 : decode cX0_givenOutAt 55 = .ok (.invokevirtual 82, 3) := by decide +kernel
theorem dX0_givenOutAt_58 : decode cX0_givenOutAt 58 = .ok (.ireturn, 1) := by decide +kernel
set_option maxRecDepth 20000 in
theorem ggX0_occupyUnit_X1_unit : GoodIn wsX0_occupyUnit wsX1_unit := goodIn_r _ [11, 12, 81, 82, 83, 84, 85, 86, 87, 88, 89] (by decide +kernel) (by decide +kernel)
set_option maxRecDepth 20000 in
theorem gX0_occupyUnit_X1_unit : GoodIn wsX0_occupyUnit (wsV RX0 48 RX1 yX1_unit wsX1_unit) := goodIn_app (goodIn_of _ (by decide +kernel)) ggX0_occupyUnit_X1_unit
set_option maxRecDepth 20000 in
theorem ggX0_occupyUnit_X0_unitFreeAt : GoodIn wsX0_occupyUnit wsX0_unitFreeAt := goodIn_r _ [17, 4, 72, 73, 74, 75, 76, 77, 78, 79, 80] (by decide +kernel) (by decide +kernel)
set_option maxRecDepth 20000 in
theorem gX0_occupyUnit_X0_unitFreeAt : GoodIn wsX0_occupyUnit (wsV RX0 95 RX0 yX0_unitFreeAt wsX0_unitFreeAt) := goodIn_app (goodIn_of _ (by decide +kernel)) ggX0_occupyUnit_X0_unitFreeAt
set_option maxRecDepth 20000 in
theorem ggX0_occupyUnit_X1_needs : GoodIn wsX0_occupyUnit wsX1_needs := goodIn_r _ [21, 22, 81, 82, 83, 84, 85, 86, 87, 88, 89] (by decide +kernel) (by decide +kernel)
set_option maxRecDepth 20000 in
theorem gX0_occupyUnit_X1_needs : GoodIn wsX0_occupyUnit (wsV RX0 69 RX1 yX1_needs wsX1_needs) := goodIn_app (goodIn_of _ (by decide +kernel)) ggX0_occupyUnit_X1_needs
set_option maxRecDepth 20000 in
theorem ggX0_occupyUnit_X5_latestIn : GoodIn wsX0_occupyUnit wsX5_latestIn := goodIn_r _ [27, 28, 29, 30, 31, 32, 33, 90, 91] (by decide +kernel) (by decide +kernel)
set_option maxRecDepth 20000 in
theorem gX0_occupyUnit_X5_latestIn : GoodIn wsX0_occupyUnit (wsV RX0 73 RX5 yX5_latestIn wsX5_latestIn) := goodIn_app (goodIn_of _ (by decide +kernel)) ggX0_occupyUnit_X5_latestIn
set_option maxRecDepth 20000 in
theorem ggX0_occupyUnit_X0_waitFor : GoodIn wsX0_occupyUnit wsX0_waitFor := goodIn_r _ [37, 38, 31, 32, 33, 39, 72, 73, 74, 75, 76, 77, 78, 79, 80] (by decide +kernel) (by decide +kernel)
set_option maxRecDepth 20000 in
theorem gX0_occupyUnit_X0_waitFor : GoodIn wsX0_occupyUnit (wsV RX0 82 RX0 yX0_waitFor wsX0_waitFor) := goodIn_app (goodIn_of _ (by decide +kernel)) ggX0_occupyUnit_X0_waitFor
set_option maxRecDepth 20000 in
theorem ggX0_occupyUnit_X0_endsAt : GoodIn wsX0_occupyUnit wsX0_endsAt := goodIn_r _ [43, 3, 6, 38, 31, 32, 33, 44, 45, 46, 10, 47, 48, 23, 24, 25, 26, 27, 28, 29, 30, 49, 50, 51, 52, 53, 54, 55, 56, 57, 58, 34, 35, 36, 16, 37, 39, 72, 73, 74, 75, 76, 77, 78, 79, 80, 81, 82, 83, 84, 85, 86, 87, 88, 89, 90, 91] (by decide +kernel) (by decide +kernel)
set_option maxRecDepth 20000 in
theorem gX0_occupyUnit_X0_endsAt : GoodIn wsX0_occupyUnit (wsV RX0 101 RX0 yX0_endsAt wsX0_endsAt) := goodIn_app (goodIn_of _ (by decide +kernel)) ggX0_occupyUnit_X0_endsAt
set_option maxRecDepth 20000 in
theorem ggX0_occupyUnit_X5_raiseIn : GoodIn wsX0_occupyUnit wsX5_raiseIn := goodIn_r _ [62, 28, 29, 30, 31, 32, 33, 90, 91] (by decide +kernel) (by decide +kernel)
set_option maxRecDepth 20000 in
theorem gX0_occupyUnit_X5_raiseIn : GoodIn wsX0_occupyUnit (wsV RX0 105 RX5 yX5_raiseIn wsX5_raiseIn) := goodIn_app (goodIn_of _ (by decide +kernel)) ggX0_occupyUnit_X5_raiseIn
set_option maxRecDepth 20000 in
theorem ggX0_occupyUnit_X1_results : GoodIn wsX0_occupyUnit wsX1_results := goodIn_r _ [47, 48, 81, 82, 83, 84, 85, 86, 87, 88, 89] (by decide +kernel) (by decide +kernel)
set_option maxRecDepth 20000 in
theorem gX0_occupyUnit_X1_results : GoodIn wsX0_occupyUnit (wsV RX0 92 RX1 yX1_results wsX1_results) := goodIn_app (goodIn_of _ (by decide +kernel)) ggX0_occupyUnit_X1_results
set_option maxRecDepth 20000 in
theorem ggX0_occupyUnit_X0_reach : GoodIn wsX0_occupyUnit wsX0_reach := goodIn_r _ [66, 67, 38, 31, 32, 33, 72, 73, 74, 75, 76, 77, 78, 79, 80] (by decide +kernel) (by decide +kernel)
set_option maxRecDepth 20000 in
theorem gX0_occupyUnit_X0_reach : GoodIn wsX0_occupyUnit (wsV RX0 62 RX0 yX0_reach wsX0_reach) := goodIn_app (goodIn_of _ (by decide +kernel)) ggX0_occupyUnit_X0_reach
set_option maxRecDepth 20000 in
theorem ggX0_occupyUnit_X1_loads : GoodIn wsX0_occupyUnit wsX1_loads := goodIn_r _ [52, 53, 54, 81, 82, 83, 84, 85, 86, 87, 88, 89] (by decide +kernel) (by decide +kernel)
set_option maxRecDepth 20000 in
theorem gX0_occupyUnit_X1_loads : GoodIn wsX0_occupyUnit (wsV RX0 108 RX1 yX1_loads wsX1_loads) := goodIn_app (goodIn_of _ (by decide +kernel)) ggX0_occupyUnit_X1_loads
set_option maxRecDepth 20000 in
theorem ggX0_occupyUnit_X1_stores : GoodIn wsX0_occupyUnit wsX1_stores := goodIn_r _ [58, 53, 54, 81, 82, 83, 84, 85, 86, 87, 88, 89] (by decide +kernel) (by decide +kernel)
set_option maxRecDepth 20000 in
theorem gX0_occupyUnit_X1_stores : GoodIn wsX0_occupyUnit (wsV RX0 112 RX1 yX1_stores wsX1_stores) := goodIn_app (goodIn_of _ (by decide +kernel)) ggX0_occupyUnit_X1_stores
set_option maxRecDepth 20000 in
theorem ggX0_occupyUnit_X1_i : GoodIn wsX0_occupyUnit wsX1_i := goodIn_r _ [71, 54, 81, 82, 83, 84, 85, 86, 87, 88, 89] (by decide +kernel) (by decide +kernel)
set_option maxRecDepth 20000 in
theorem gX0_occupyUnit_X1_i : GoodIn wsX0_occupyUnit (wsV RX0 115 RX1 yX1_i wsX1_i) := goodIn_app (goodIn_of _ (by decide +kernel)) ggX0_occupyUnit_X1_i
theorem dX0_occupyUnit_0 : decode cX0_occupyUnit 0 = .ok (.aload_n 0, 1) := by decide +kernel
theorem dX0_occupyUnit_1 : decode cX0_occupyUnit 1 = .ok (.aload_n 1, 1) := by decide +kernel
theorem dX0_occupyUnit_2 : decode cX0_occupyUnit 2 = .ok (.invokevirtual 48, 3) := by decide +kernel
theorem dX0_occupyUnit_5 : decode cX0_occupyUnit 5 = .ok (.iload_n 2, 1) := by decide +kernel
theorem dX0_occupyUnit_6 : decode cX0_occupyUnit 6 = .ok (.invokevirtual 95, 3) := by decide +kernel
theorem dX0_occupyUnit_9 : decode cX0_occupyUnit 9 = .ok (.istore_n 3, 1) := by decide +kernel
theorem dX0_occupyUnit_10 : decode cX0_occupyUnit 10 = .ok (.aload_n 0, 1) := by decide +kernel
theorem dX0_occupyUnit_11 : decode cX0_occupyUnit 11 = .ok (.iload_n 2, 1) := by decide +kernel
theorem dX0_occupyUnit_12 : decode cX0_occupyUnit 12 = .ok (.iconst 1, 1) := by decide +kernel
theorem dX0_occupyUnit_13 : decode cX0_occupyUnit 13 = .ok (.iadd, 1) := by decide +kernel
theorem dX0_occupyUnit_14 : decode cX0_occupyUnit 14 = .ok (.aload_n 1, 1) := by decide +kernel
theorem dX0_occupyUnit_15 : decode cX0_occupyUnit 15 = .ok (.invokevirtual 69, 3) := by decide +kernel
theorem dX0_occupyUnit_18 : decode cX0_occupyUnit 18 = .ok (.aload_n 0, 1) := by decide +kernel
theorem dX0_occupyUnit_19 : decode cX0_occupyUnit 19 = .ok (.getfield 22, 3) := by decide +kernel
theorem dX0_occupyUnit_22 : decode cX0_occupyUnit 22 = .ok (.invokevirtual 73, 3) := by decide +kernel
theorem dX0_occupyUnit_25 : decode cX0_occupyUnit 25 = .ok (.iconst 3, 1) := by decide +kernel
theorem dX0_occupyUnit_26 : decode cX0_occupyUnit 26 = .ok (.invokevirtual 82, 3) := by decide +kernel
theorem dX0_occupyUnit_29 : decode cX0_occupyUnit 29 = .ok (.istore 4, 2) := by decide +kernel
theorem dX0_occupyUnit_31 : decode cX0_occupyUnit 31 = .ok (.aload_n 0, 1) := by decide +kernel
theorem dX0_occupyUnit_32 : decode cX0_occupyUnit 32 = .ok (.aload_n 1, 1) := by decide +kernel
theorem dX0_occupyUnit_33 : decode cX0_occupyUnit 33 = .ok (.iload 4, 2) := by decide +kernel
theorem dX0_occupyUnit_35 : decode cX0_occupyUnit 35 = .ok (.getstatic 98, 3) := by decide +kernel
theorem dX0_occupyUnit_38 : decode cX0_occupyUnit 38 = .ok (.iload_n 3, 1) := by decide +kernel
theorem dX0_occupyUnit_39 : decode cX0_occupyUnit 39 = .ok (.iaload, 1) := by decide +kernel
theorem dX0_occupyUnit_40 : decode cX0_occupyUnit 40 = .ok (.iadd, 1) := by decide +kernel
theorem dX0_occupyUnit_41 : decode cX0_occupyUnit 41 = .ok (.invokevirtual 101, 3) := by decide +kernel
theorem dX0_occupyUnit_44 : decode cX0_occupyUnit 44 = .ok (.istore 5, 2) := by decide +kernel
theorem dX0_occupyUnit_46 : decode cX0_occupyUnit 46 = .ok (.aload_n 1, 1) := by decide +kernel
theorem dX0_occupyUnit_47 : decode cX0_occupyUnit 47 = .ok (.invokevirtual 69, 3) := by decide +kernel
theorem dX0_occupyUnit_50 : decode cX0_occupyUnit 50 = .ok (.aload_n 0, 1) := by decide +kernel
theorem dX0_occupyUnit_51 : decode cX0_occupyUnit 51 = .ok (.getfield 25, 3) := by decide +kernel
theorem dX0_occupyUnit_54 : decode cX0_occupyUnit 54 = .ok (.iload 4, 2) := by decide +kernel
theorem dX0_occupyUnit_56 : decode cX0_occupyUnit 56 = .ok (.invokevirtual 105, 3) := by decide +kernel
theorem dX0_occupyUnit_59 : decode cX0_occupyUnit 59 = .ok (.aload_n 1, 1) := by decide +kernel
theorem dX0_occupyUnit_60 : decode cX0_occupyUnit 60 = .ok (.invokevirtual 92, 3) := by decide +kernel
theorem dX0_occupyUnit_63 : decode cX0_occupyUnit 63 = .ok (.aload_n 0, 1) := by decide +kernel
theorem dX0_occupyUnit_64 : decode cX0_occupyUnit 64 = .ok (.getfield 22, 3) := by decide +kernel
theorem dX0_occupyUnit_67 : decode cX0_occupyUnit 67 = .ok (.iload 5, 2) := by decide +kernel
theorem dX0_occupyUnit_69 : decode cX0_occupyUnit 69 = .ok (.iconst 1, 1) := by decide +kernel
theorem dX0_occupyUnit_70 : decode cX0_occupyUnit 70 = .ok (.iadd, 1) := by decide +kernel
theorem dX0_occupyUnit_71 : decode cX0_occupyUnit 71 = .ok (.invokevirtual 105, 3) := by decide +kernel
theorem dX0_occupyUnit_74 : decode cX0_occupyUnit 74 = .ok (.aload_n 0, 1) := by decide +kernel
theorem dX0_occupyUnit_75 : decode cX0_occupyUnit 75 = .ok (.getfield 19, 3) := by decide +kernel
theorem dX0_occupyUnit_78 : decode cX0_occupyUnit 78 = .ok (.iload_n 3, 1) := by decide +kernel
theorem dX0_occupyUnit_79 : decode cX0_occupyUnit 79 = .ok (.iload 5, 2) := by decide +kernel
theorem dX0_occupyUnit_81 : decode cX0_occupyUnit 81 = .ok (.iconst 1, 1) := by decide +kernel
theorem dX0_occupyUnit_82 : decode cX0_occupyUnit 82 = .ok (.iadd, 1) := by decide +kernel
theorem dX0_occupyUnit_83 : decode cX0_occupyUnit 83 = .ok (.iastore, 1) := by decide +kernel
theorem dX0_occupyUnit_84 : decode cX0_occupyUnit 84 = .ok (.aload_n 0, 1) := by decide +kernel
theorem dX0_occupyUnit_85 : decode cX0_occupyUnit 85 = .ok (.getfield 11, 3) := by decide +kernel
theorem dX0_occupyUnit_88 : decode cX0_occupyUnit 88 = .ok (.iload_n 3, 1) := by decide +kernel
theorem dX0_occupyUnit_89 : decode cX0_occupyUnit 89 = .ok (.dup2, 1) := by decide +kernel
theorem dX0_occupyUnit_90 : decode cX0_occupyUnit 90 = .ok (.iaload, 1) := by decide +kernel
theorem dX0_occupyUnit_91 : decode cX0_occupyUnit 91 = .ok (.iconst 1, 1) := by decide +kernel
theorem dX0_occupyUnit_92 : decode cX0_occupyUnit 92 = .ok (.iadd, 1) := by decide +kernel
theorem dX0_occupyUnit_93 : decode cX0_occupyUnit 93 = .ok (.iastore, 1) := by decide +kernel
theorem dX0_occupyUnit_94 : decode cX0_occupyUnit 94 = .ok (.aload_n 0, 1) := by decide +kernel
theorem dX0_occupyUnit_95 : decode cX0_occupyUnit 95 = .ok (.iload 5, 2) := by decide +kernel
theorem dX0_occupyUnit_97 : decode cX0_occupyUnit 97 = .ok (.invokevirtual 62, 3) := by decide +kernel
theorem dX0_occupyUnit_100 : decode cX0_occupyUnit 100 = .ok (.aload_n 1, 1) := by decide +kernel
theorem dX0_occupyUnit_101 : decode cX0_occupyUnit 101 = .ok (.invokevirtual 108, 3) := by decide +kernel
theorem dX0_occupyUnit_104 : decode cX0_occupyUnit 104 = .ok (.ifCond .ne 10, 3) := by decide +kernel
theorem dX0_occupyUnit_107 : decode cX0_occupyUnit 107 = .ok (.aload_n 1, 1) := by decide +kernel
theorem dX0_occupyUnit_108 : decode cX0_occupyUnit 108 = .ok (.invokevirtual 112, 3) := by decide +kernel
theorem dX0_occupyUnit_111 : decode cX0_occupyUnit 111 = .ok (.ifCond .eq 9, 3) := by decide +kernel
theorem dX0_occupyUnit_114 : decode cX0_occupyUnit 114 = .ok (.aload_n 0, 1) := by decide +kernel
theorem dX0_occupyUnit_115 : decode cX0_occupyUnit 115 = .ok (.iload 5, 2) := by decide +kernel
theorem dX0_occupyUnit_117 : decode cX0_occupyUnit 117 = .ok (.putfield 38, 3) := by decide +kernel
theorem dX0_occupyUnit_120 : decode cX0_occupyUnit 120 = .ok (.aload_n 1, 1) := by decide +kernel
theorem dX0_occupyUnit_121 : decode cX0_occupyUnit 121 = .ok (.invokevirtual 108, 3) := by decide +kernel
theorem dX0_occupyUnit_124 : decode cX0_occupyUnit 124 = .ok (.ifCond .eq 26, 3) := by decide +kernel
theorem dX0_occupyUnit_127 : decode cX0_occupyUnit 127 = .ok (.aload_n 0, 1) := by decide +kernel
theorem dX0_occupyUnit_128 : decode cX0_occupyUnit 128 = .ok (.getfield 22, 3) := by decide +kernel
theorem dX0_occupyUnit_131 : decode cX0_occupyUnit 131 = .ok (.aload_n 1, 1) := by decide +kernel
theorem dX0_occupyUnit_132 : decode cX0_occupyUnit 132 = .ok (.invokevirtual 115, 3) := by decide +kernel
theorem dX0_occupyUnit_135 : decode cX0_occupyUnit 135 = .ok (.iload 5, 2) := by decide +kernel
theorem dX0_occupyUnit_137 : decode cX0_occupyUnit 137 = .ok (.iconst 5, 1) := by decide +kernel
theorem dX0_occupyUnit_138 : decode cX0_occupyUnit 138 = .ok (.iadd, 1) := by decide +kernel
theorem dX0_occupyUnit_139 : decode cX0_occupyUnit 139 = .ok (.iconst 1, 1) := by decide +kernel
theorem dX0_occupyUnit_140 : decode cX0_occupyUnit 140 = .ok (.iadd, 1) := by decide +kernel
theorem dX0_occupyUnit_141 : decode cX0_occupyUnit 141 = .ok (.iastore, 1) := by decide +kernel
theorem dX0_occupyUnit_142 : decode cX0_occupyUnit 142 = .ok (.aload_n 0, 1) := by decide +kernel
theorem dX0_occupyUnit_143 : decode cX0_occupyUnit 143 = .ok (.iload 5, 2) := by decide +kernel
theorem dX0_occupyUnit_145 : decode cX0_occupyUnit 145 = .ok (.iconst 5, 1) := by decide +kernel
theorem dX0_occupyUnit_146 : decode cX0_occupyUnit 146 = .ok (.iadd, 1) := by decide +kernel
theorem dX0_occupyUnit_147 : decode cX0_occupyUnit 147 = .ok (.invokevirtual 62, 3) := by decide +kernel
theorem dX0_occupyUnit_150 : decode cX0_occupyUnit 150 = .ok (.return_, 1) := by decide +kernel
theorem dX0_unitFreeAt_0 : decode cX0_unitFreeAt 0 = .ok (.iload_n 1, 1) := by decide +kernel
theorem dX0_unitFreeAt_1 : decode cX0_unitFreeAt 1 = .ok (.iconst 4, 1) := by decide +kernel
theorem dX0_unitFreeAt_2 : decode cX0_unitFreeAt 2 = .ok (.if_icmp .ne 17, 3) := by decide +kernel
theorem dX0_unitFreeAt_5 : decode cX0_unitFreeAt 5 = .ok (.aload_n 0, 1) := by decide +kernel
theorem dX0_unitFreeAt_6 : decode cX0_unitFreeAt 6 = .ok (.getfield 19, 3) := by decide +kernel
theorem dX0_unitFreeAt_9 : decode cX0_unitFreeAt 9 = .ok (.iconst 4, 1) := by decide +kernel
theorem dX0_unitFreeAt_10 : decode cX0_unitFreeAt 10 = .ok (.iaload, 1) := by decide +kernel
theorem dX0_unitFreeAt_11 : decode cX0_unitFreeAt 11 = .ok (.iload_n 2, 1) := by decide +kernel
theorem dX0_unitFreeAt_12 : decode cX0_unitFreeAt 12 = .ok (.if_icmp .le 7, 3) := by decide +kernel
theorem dX0_unitFreeAt_15 : decode cX0_unitFreeAt 15 = .ok (.iconst 1, 1) := by decide +kernel
theorem dX0_unitFreeAt_16 : decode cX0_unitFreeAt 16 = .ok (.goto 4, 3) := by decide +kernel
theorem dX0_unitFreeAt_19 : decode cX0_unitFreeAt 19 = .ok (.iconst 0, 1) := by decide +kernel
theorem dX0_unitFreeAt_20 : decode cX0_unitFreeAt 20 = .ok (.istore_n 3, 1) := by decide +kernel
theorem dX0_unitFreeAt_21 : decode cX0_unitFreeAt 21 = .ok (.iload_n 3, 1) := by decide +kernel
theorem dX0_unitFreeAt_22 : decode cX0_unitFreeAt 22 = .ok (.ifCond .eq 7, 3) := by decide +kernel
theorem dX0_unitFreeAt_25 : decode cX0_unitFreeAt 25 = .ok (.iconst 5, 1) := by decide +kernel
theorem dX0_unitFreeAt_26 : decode cX0_unitFreeAt 26 = .ok (.goto 4, 3) := by decide +kernel
theorem dX0_unitFreeAt_29 : decode cX0_unitFreeAt 29 = .ok (.iload_n 1, 1) := by decide +kernel
theorem dX0_unitFreeAt_30 : decode cX0_unitFreeAt 30 = .ok (.ireturn, 1) := by decide +kernel
set_option maxRecDepth 20000 in
theorem ggX0_endsAt_X1_results : GoodIn wsX0_endsAt wsX1_results := goodIn_r _ [11, 12, 46, 47, 48, 49, 50, 51, 52, 53, 54] (by decide +kernel) (by decide +kernel)
set_option maxRecDepth 20000 in
theorem gX0_endsAt_X1_results : GoodIn wsX0_endsAt (wsV RX0 92 RX1 yX1_results wsX1_results) := goodIn_app (goodIn_of _ (by decide +kernel)) ggX0_endsAt_X1_results
set_option maxRecDepth 20000 in
theorem ggX0_endsAt_X5_latestIn : GoodIn wsX0_endsAt wsX5_latestIn := goodIn_r _ [17, 18, 19, 20, 4, 5, 6, 55, 56] (by decide +kernel) (by decide +kernel)
set_option maxRecDepth 20000 in
theorem gX0_endsAt_X5_latestIn : GoodIn wsX0_endsAt (wsV RX0 73 RX5 yX5_latestIn wsX5_latestIn) := goodIn_app (goodIn_of _ (by decide +kernel)) ggX0_endsAt_X5_latestIn
set_option maxRecDepth 20000 in
theorem ggX0_endsAt_X1_loads : GoodIn wsX0_endsAt wsX1_loads := goodIn_r _ [24, 25, 26, 46, 47, 48, 49, 50, 51, 52, 53, 54] (by decide +kernel) (by decide +kernel)
set_option maxRecDepth 20000 in
theorem gX0_endsAt_X1_loads : GoodIn wsX0_endsAt (wsV RX0 108 RX1 yX1_loads wsX1_loads) := goodIn_app (goodIn_of _ (by decide +kernel)) ggX0_endsAt_X1_loads
set_option maxRecDepth 20000 in
theorem ggX0_endsAt_X1_stores : GoodIn wsX0_endsAt wsX1_stores := goodIn_r _ [30, 25, 26, 46, 47, 48, 49, 50, 51, 52, 53, 54] (by decide +kernel) (by decide +kernel)
set_option maxRecDepth 20000 in
theorem gX0_endsAt_X1_stores : GoodIn wsX0_endsAt (wsV RX0 112 RX1 yX1_stores wsX1_stores) := goodIn_app (goodIn_of _ (by decide +kernel)) ggX0_endsAt_X1_stores
set_option maxRecDepth 20000 in
theorem ggX0_endsAt_X0_waitFor : GoodIn wsX0_endsAt wsX0_waitFor := goodIn_r _ [35, 3, 4, 5, 6, 36, 37, 38, 39, 40, 41, 42, 43, 44, 45] (by decide +kernel) (by decide +kernel)
set_option maxRecDepth 20000 in
theorem gX0_endsAt_X0_waitFor : GoodIn wsX0_endsAt (wsV RX0 82 RX0 yX0_waitFor wsX0_waitFor) := goodIn_app (goodIn_of _ (by decide +kernel)) ggX0_endsAt_X0_waitFor
theorem dX0_endsAt_0 : decode cX0_endsAt 0 = .ok (.aload_n 1, 1) := by decide +kernel
theorem dX0_endsAt_1 : decode cX0_endsAt 1 = .ok (.invokevirtual 92, 3) := by decide +kernel
theorem dX0_endsAt_4 : decode cX0_endsAt 4 = .ok (.aload_n 0, 1) := by decide +kernel
theorem dX0_endsAt_5 : decode cX0_endsAt 5 = .ok (.getfield 25, 3) := by decide +kernel
theorem dX0_endsAt_8 : decode cX0_endsAt 8 = .ok (.invokevirtual 73, 3) := by decide +kernel
theorem dX0_endsAt_11 : decode cX0_endsAt 11 = .ok (.iconst 1, 1) := by decide +kernel
theorem dX0_endsAt_12 : decode cX0_endsAt 12 = .ok (.iadd, 1) := by decide +kernel
theorem dX0_endsAt_13 : decode cX0_endsAt 13 = .ok (.istore_n 3, 1) := by decide +kernel
theorem dX0_endsAt_14 : decode cX0_endsAt 14 = .ok (.aload_n 1, 1) := by decide +kernel
theorem dX0_endsAt_15 : decode cX0_endsAt 15 = .ok (.invokevirtual 108, 3) := by decide +kernel
theorem dX0_endsAt_18 : decode cX0_endsAt 18 = .ok (.ifCond .ne 10, 3) := by decide +kernel
theorem dX0_endsAt_21 : decode cX0_endsAt 21 = .ok (.aload_n 1, 1) := by decide +kernel
theorem dX0_endsAt_22 : decode cX0_endsAt 22 = .ok (.invokevirtual 112, 3) := by decide +kernel
theorem dX0_endsAt_25 : decode cX0_endsAt 25 = .ok (.ifCond .eq 14, 3) := by decide +kernel
theorem dX0_endsAt_28 : decode cX0_endsAt 28 = .ok (.iload_n 3, 1) := by decide +kernel
theorem dX0_endsAt_29 : decode cX0_endsAt 29 = .ok (.aload_n 0, 1) := by decide +kernel
theorem dX0_endsAt_30 : decode cX0_endsAt 30 = .ok (.getfield 38, 3) := by decide +kernel
theorem dX0_endsAt_33 : decode cX0_endsAt 33 = .ok (.iconst 1, 1) := by decide +kernel
theorem dX0_endsAt_34 : decode cX0_endsAt 34 = .ok (.iadd, 1) := by decide +kernel
theorem dX0_endsAt_35 : decode cX0_endsAt 35 = .ok (.invokestatic 118, 3) := by decide +kernel
theorem dX0_endsAt_38 : decode cX0_endsAt 38 = .ok (.istore_n 3, 1) := by decide +kernel
theorem dX0_endsAt_39 : decode cX0_endsAt 39 = .ok (.aload_n 0, 1) := by decide +kernel
theorem dX0_endsAt_40 : decode cX0_endsAt 40 = .ok (.iload_n 2, 1) := by decide +kernel
theorem dX0_endsAt_41 : decode cX0_endsAt 41 = .ok (.iload_n 3, 1) := by decide +kernel
theorem dX0_endsAt_42 : decode cX0_endsAt 42 = .ok (.iconst 4, 1) := by decide +kernel
theorem dX0_endsAt_43 : decode cX0_endsAt 43 = .ok (.invokevirtual 82, 3) := by decide +kernel
theorem dX0_endsAt_46 : decode cX0_endsAt 46 = .ok (.ireturn, 1) := by decide +kernel
theorem dX0_waitFor_0 : decode cX0_waitFor 0 = .ok (.iload_n 1, 1) := by decide +kernel
theorem dX0_waitFor_1 : decode cX0_waitFor 1 = .ok (.iload_n 2, 1) := by decide +kernel
theorem dX0_waitFor_2 : decode cX0_waitFor 2 = .ok (.invokestatic 118, 3) := by decide +kernel
theorem dX0_waitFor_5 : decode cX0_waitFor 5 = .ok (.istore 4, 2) := by decide +kernel
theorem dX0_waitFor_7 : decode cX0_waitFor 7 = .ok (.aload_n 0, 1) := by decide +kernel
theorem dX0_waitFor_8 : decode cX0_waitFor 8 = .ok (.getfield 15, 3) := by decide +kernel
theorem dX0_waitFor_11 : decode cX0_waitFor 11 = .ok (.iload_n 3, 1) := by decide +kernel
theorem dX0_waitFor_12 : decode cX0_waitFor 12 = .ok (.dup2, 1) := by decide +kernel
theorem dX0_waitFor_13 : decode cX0_waitFor 13 = .ok (.laload, 1) := by decide +kernel
theorem dX0_waitFor_14 : decode cX0_waitFor 14 = .ok (.iload 4, 2) := by decide +kernel
theorem dX0_waitFor_16 : decode cX0_waitFor 16 = .ok (.iload_n 1, 1) := by decide +kernel
theorem dX0_waitFor_17 : decode cX0_waitFor 17 = .ok (.isub, 1) := by decide +kernel
theorem dX0_waitFor_18 : decode cX0_waitFor 18 = .ok (.i2l, 1) := by decide +kernel
theorem dX0_waitFor_19 : decode cX0_waitFor 19 = .ok (.ladd, 1) := by decide +kernel
theorem dX0_waitFor_20 : decode cX0_waitFor 20 = .ok (.lastore, 1) := by decide +kernel
theorem dX0_waitFor_21 : decode cX0_waitFor 21 = .ok (.iload 4, 2) := by decide +kernel
theorem dX0_waitFor_23 : decode cX0_waitFor 23 = .ok (.ireturn, 1) := by decide +kernel
theorem dX0_reach_0 : decode cX0_reach 0 = .ok (.aload_n 0, 1) := by decide +kernel
theorem dX0_reach_1 : decode cX0_reach 1 = .ok (.aload_n 0, 1) := by decide +kernel
theorem dX0_reach_2 : decode cX0_reach 2 = .ok (.getfield 45, 3) := by decide +kernel
theorem dX0_reach_5 : decode cX0_reach 5 = .ok (.iload_n 1, 1) := by decide +kernel
theorem dX0_reach_6 : decode cX0_reach 6 = .ok (.invokestatic 118, 3) := by decide +kernel
theorem dX0_reach_9 : decode cX0_reach 9 = .ok (.putfield 45, 3) := by decide +kernel
theorem dX0_reach_12 : decode cX0_reach 12 = .ok (.return_, 1) := by decide +kernel
set_option maxRecDepth 20000 in
theorem ggX1_init_X5_init : GoodIn wsX1_init wsX5_init := goodIn_r _ [10, 11, 2, 3, 12, 13, 14, 15] (by decide +kernel) (by decide +kernel)
set_option maxRecDepth 20000 in
theorem gX1_init_X5_init_n13 : GoodIn wsX1_init (wsX5_init) := ggX1_init_X5_init
theorem dX1_init_0 : decode cX1_init 0 = .ok (.aload_n 0, 1) := by decide +kernel
theorem dX1_init_1 : decode cX1_init 1 = .ok (.invokespecial 5, 3) := by decide +kernel
theorem dX1_init_4 : decode cX1_init 4 = .ok (.aload_n 0, 1) := by decide +kernel
theorem dX1_init_5 : decode cX1_init 5 = .ok (.new 11, 3) := by decide +kernel
theorem dX1_init_8 : decode cX1_init 8 = .ok (.dup, 1) := by decide +kernel
theorem dX1_init_9 : decode cX1_init 9 = .ok (.invokespecial 13, 3) := by decide +kernel
theorem dX1_init_12 : decode cX1_init 12 = .ok (.putfield 14, 3) := by decide +kernel
theorem dX1_init_15 : decode cX1_init 15 = .ok (.aload_n 0, 1) := by decide +kernel
theorem dX1_init_16 : decode cX1_init 16 = .ok (.new 11, 3) := by decide +kernel
theorem dX1_init_19 : decode cX1_init 19 = .ok (.dup, 1) := by decide +kernel
theorem dX1_init_20 : decode cX1_init 20 = .ok (.invokespecial 13, 3) := by decide +kernel
theorem dX1_init_23 : decode cX1_init 23 = .ok (.putfield 18, 3) := by decide +kernel
theorem dX1_init_26 : decode cX1_init 26 = .ok (.return_, 1) := by decide +kernel
set_option maxRecDepth 20000 in
theorem ggX1_decode_X1_unitOf : GoodIn wsX1_decode wsX1_unitOf := goodIn_r _ [14] (by decide +kernel) (by decide +kernel)
set_option maxRecDepth 20000 in
theorem gX1_decode_X1_unitOf : GoodIn wsX1_decode (va_wsS RX1 41 yX1_unitOf wsX1_unitOf) := goodIn_app (goodIn_of _ (by decide +kernel)) ggX1_decode_X1_unitOf
set_option maxRecDepth 20000 in
theorem ggX1_decode_X5_clear : GoodIn wsX1_decode wsX5_clear := goodIn_r _ [19, 20, 87, 88] (by decide +kernel) (by decide +kernel)
set_option maxRecDepth 20000 in
theorem gX1_decode_X5_clear : GoodIn wsX1_decode (wsV RX1 48 RX5 yX5_clear wsX5_clear) := goodIn_app (goodIn_of _ (by decide +kernel)) ggX1_decode_X5_clear
set_option maxRecDepth 20000 in
theorem ggX1_decode_X1_listNeeds : GoodIn wsX1_decode wsX1_listNeeds := goodIn_r _ [24, 8, 9, 4, 5, 25, 26, 27, 13, 28, 2, 29, 30, 31, 18, 32, 33, 34, 35, 36, 20, 37, 38, 39, 40, 41, 3, 42, 43, 44, 45, 46, 47, 48, 49, 50, 51, 52, 53, 54, 55, 56, 57, 58, 59, 60, 61, 62, 63, 64, 65, 66, 67, 68, 69, 78, 79, 80, 81, 82, 83, 84, 85, 86, 87, 88] (by decide +kernel) (by decide +kernel)
set_option maxRecDepth 20000 in
theorem gX1_decode_X1_listNeeds : GoodIn wsX1_decode (wsV RX1 51 RX1 yX1_listNeeds wsX1_listNeeds) := goodIn_app (goodIn_of _ (by decide +kernel)) ggX1_decode_X1_listNeeds
set_option maxRecDepth 20000 in
theorem ggX1_decode_X1_listResults : GoodIn wsX1_decode wsX1_listResults := goodIn_r _ [73, 8, 2, 10, 3, 50, 51, 52, 18, 53, 33, 34, 35, 36, 20, 37, 74, 75, 76, 13, 77, 29, 30, 31, 32, 42, 43, 44, 45, 78, 79, 80, 81, 82, 83, 84, 85, 86, 87, 88] (by decide +kernel) (by decide +kernel)
set_option maxRecDepth 20000 in
theorem gX1_decode_X1_listResults : GoodIn wsX1_decode (wsV RX1 54 RX1 yX1_listResults wsX1_listResults) := goodIn_app (goodIn_of _ (by decide +kernel)) ggX1_decode_X1_listResults
theorem dX1_decode_0 : decode cX1_decode 0 = .ok (.aload_n 0, 1) := by decide +kernel
theorem dX1_decode_1 : decode cX1_decode 1 = .ok (.iconst 4, 1) := by decide +kernel
theorem dX1_decode_2 : decode cX1_decode 2 = .ok (.iload_n 3, 1) := by decide +kernel
theorem dX1_decode_3 : decode cX1_decode 3 = .ok (.isub, 1) := by decide +kernel
theorem dX1_decode_4 : decode cX1_decode 4 = .ok (.putfield 21, 3) := by decide +kernel
theorem dX1_decode_7 : decode cX1_decode 7 = .ok (.lload_n 1, 1) := by decide +kernel
theorem dX1_decode_8 : decode cX1_decode 8 = .ok (.bipush 15, 2) := by decide +kernel
theorem dX1_decode_10 : decode cX1_decode 10 = .ok (.aload_n 0, 1) := by decide +kernel
theorem dX1_decode_11 : decode cX1_decode 11 = .ok (.getfield 21, 3) := by decide +kernel
theorem dX1_decode_14 : decode cX1_decode 14 = .ok (.iconst 1, 1) := by decide +kernel
theorem dX1_decode_15 : decode cX1_decode 15 = .ok (.isub, 1) := by decide +kernel
theorem dX1_decode_16 : decode cX1_decode 16 = .ok (.imul, 1) := by decide +kernel
theorem dX1_decode_17 : decode cX1_decode 17 = .ok (.lshr, 1) := by decide +kernel
theorem dX1_decode_18 : decode cX1_decode 18 = .ok (.l2i, 1) := by decide +kernel
theorem dX1_decode_19 : decode cX1_decode 19 = .ok (.sipush 32767, 3) := by decide +kernel
theorem dX1_decode_22 : decode cX1_decode 22 = .ok (.iand, 1) := by decide +kernel
theorem dX1_decode_23 : decode cX1_decode 23 = .ok (.istore 4, 2) := by decide +kernel
theorem dX1_decode_25 : decode cX1_decode 25 = .ok (.aload_n 0, 1) := by decide +kernel
theorem dX1_decode_26 : decode cX1_decode 26 = .ok (.iload 4, 2) := by decide +kernel
theorem dX1_decode_28 : decode cX1_decode 28 = .ok (.bipush 9, 2) := by decide +kernel
theorem dX1_decode_30 : decode cX1_decode 30 = .ok (.ishr, 1) := by decide +kernel
theorem dX1_decode_31 : decode cX1_decode 31 = .ok (.putfield 25, 3) := by decide +kernel
theorem dX1_decode_34 : decode cX1_decode 34 = .ok (.aload_n 0, 1) := by decide +kernel
theorem dX1_decode_35 : decode cX1_decode 35 = .ok (.iload 4, 2) := by decide +kernel
theorem dX1_decode_37 : decode cX1_decode 37 = .ok (.bipush 6, 2) := by decide +kernel
theorem dX1_decode_39 : decode cX1_decode 39 = .ok (.ishr, 1) := by decide +kernel
theorem dX1_decode_40 : decode cX1_decode 40 = .ok (.bipush 7, 2) := by decide +kernel
theorem dX1_decode_42 : decode cX1_decode 42 = .ok (.iand, 1) := by decide +kernel
theorem dX1_decode_43 : decode cX1_decode 43 = .ok (.putfield 28, 3) := by decide +kernel
theorem dX1_decode_46 : decode cX1_decode 46 = .ok (.aload_n 0, 1) := by decide +kernel
theorem dX1_decode_47 : decode cX1_decode 47 = .ok (.iload 4, 2) := by decide +kernel
theorem dX1_decode_49 : decode cX1_decode 49 = .ok (.iconst 3, 1) := by decide +kernel
theorem dX1_decode_50 : decode cX1_decode 50 = .ok (.ishr, 1) := by decide +kernel
theorem dX1_decode_51 : decode cX1_decode 51 = .ok (.bipush 7, 2) := by decide +kernel
theorem dX1_decode_53 : decode cX1_decode 53 = .ok (.iand, 1) := by decide +kernel
theorem dX1_decode_54 : decode cX1_decode 54 = .ok (.putfield 31, 3) := by decide +kernel
theorem dX1_decode_57 : decode cX1_decode 57 = .ok (.aload_n 0, 1) := by decide +kernel
theorem dX1_decode_58 : decode cX1_decode 58 = .ok (.iload 4, 2) := by decide +kernel
theorem dX1_decode_60 : decode cX1_decode 60 = .ok (.bipush 7, 2) := by decide +kernel
theorem dX1_decode_62 : decode cX1_decode 62 = .ok (.iand, 1) := by decide +kernel
theorem dX1_decode_63 : decode cX1_decode 63 = .ok (.putfield 34, 3) := by decide +kernel
theorem dX1_decode_66 : decode cX1_decode 66 = .ok (.aload_n 0, 1) := by decide +kernel
theorem dX1_decode_67 : decode cX1_decode 67 = .ok (.aload_n 0, 1) := by decide +kernel
theorem dX1_decode_68 : decode cX1_decode 68 = .ok (.getfield 21, 3) := by decide +kernel
theorem dX1_decode_71 : decode cX1_decode 71 = .ok (.iconst 2, 1) := by decide +kernel
theorem dX1_decode_72 : decode cX1_decode 72 = .ok (.if_icmp .ge 7, 3) := by decide +kernel
theorem dX1_decode_75 : decode cX1_decode 75 = .ok (.iconst 0, 1) := by decide +kernel
theorem dX1_decode_76 : decode cX1_decode 76 = .ok (.goto 18, 3) := by decide +kernel
theorem dX1_decode_79 : decode cX1_decode 79 = .ok (.lload_n 1, 1) := by decide +kernel
theorem dX1_decode_80 : decode cX1_decode 80 = .ok (.bipush 15, 2) := by decide +kernel
theorem dX1_decode_82 : decode cX1_decode 82 = .ok (.aload_n 0, 1) := by decide +kernel
theorem dX1_decode_83 : decode cX1_decode 83 = .ok (.getfield 21, 3) := by decide +kernel
theorem dX1_decode_86 : decode cX1_decode 86 = .ok (.iconst 2, 1) := by decide +kernel
theorem dX1_decode_87 : decode cX1_decode 87 = .ok (.isub, 1) := by decide +kernel
theorem dX1_decode_88 : decode cX1_decode 88 = .ok (.imul, 1) := by decide +kernel
theorem dX1_decode_89 : decode cX1_decode 89 = .ok (.lshr, 1) := by decide +kernel
theorem dX1_decode_90 : decode cX1_decode 90 = .ok (.l2i, 1) := by decide +kernel
theorem dX1_decode_91 : decode cX1_decode 91 = .ok (.ldc 37, 2) := by decide +kernel
theorem dX1_decode_93 : decode cX1_decode 93 = .ok (.iand, 1) := by decide +kernel
theorem dX1_decode_94 : decode cX1_decode 94 = .ok (.putfield 38, 3) := by decide +kernel
theorem dX1_decode_97 : decode cX1_decode 97 = .ok (.aload_n 0, 1) := by decide +kernel
theorem dX1_decode_98 : decode cX1_decode 98 = .ok (.aload_n 0, 1) := by decide +kernel
theorem dX1_decode_99 : decode cX1_decode 99 = .ok (.getfield 25, 3) := by decide +kernel
theorem dX1_decode_102 : decode cX1_decode 102 = .ok (.invokestatic 41, 3) := by decide +kernel
theorem dX1_decode_105 : decode cX1_decode 105 = .ok (.putfield 45, 3) := by decide +kernel
theorem dX1_decode_108 : decode cX1_decode 108 = .ok (.aload_n 0, 1) := by decide +kernel
theorem dX1_decode_109 : decode cX1_decode 109 = .ok (.getfield 14, 3) := by decide +kernel
theorem dX1_decode_112 : decode cX1_decode 112 = .ok (.invokevirtual 48, 3) := by decide +kernel
theorem dX1_decode_115 : decode cX1_decode 115 = .ok (.aload_n 0, 1) := by decide +kernel
theorem dX1_decode_116 : decode cX1_decode 116 = .ok (.getfield 18, 3) := by decide +kernel
theorem dX1_decode_119 : decode cX1_decode 119 = .ok (.invokevirtual 48, 3) := by decide +kernel
theorem dX1_decode_122 : decode cX1_decode 122 = .ok (.aload_n 0, 1) := by decide +kernel
theorem dX1_decode_123 : decode cX1_decode 123 = .ok (.invokevirtual 51, 3) := by decide +kernel
theorem dX1_decode_126 : decode cX1_decode 126 = .ok (.aload_n 0, 1) := by decide +kernel
theorem dX1_decode_127 : decode cX1_decode 127 = .ok (.invokevirtual 54, 3) := by decide +kernel
theorem dX1_decode_130 : decode cX1_decode 130 = .ok (.return_, 1) := by decide +kernel
theorem dX1_op_0 : decode cX1_op 0 = .ok (.aload_n 0, 1) := by decide +kernel
theorem dX1_op_1 : decode cX1_op 1 = .ok (.getfield 25, 3) := by decide +kernel
theorem dX1_op_4 : decode cX1_op 4 = .ok (.ireturn, 1) := by decide +kernel
theorem dX1_i_0 : decode cX1_i 0 = .ok (.aload_n 0, 1) := by decide +kernel
theorem dX1_i_1 : decode cX1_i 1 = .ok (.getfield 28, 3) := by decide +kernel
theorem dX1_i_4 : decode cX1_i 4 = .ok (.ireturn, 1) := by decide +kernel
theorem dX1_j_0 : decode cX1_j 0 = .ok (.aload_n 0, 1) := by decide +kernel
theorem dX1_j_1 : decode cX1_j 1 = .ok (.getfield 31, 3) := by decide +kernel
theorem dX1_j_4 : decode cX1_j 4 = .ok (.ireturn, 1) := by decide +kernel
theorem dX1_k_0 : decode cX1_k 0 = .ok (.aload_n 0, 1) := by decide +kernel
theorem dX1_k_1 : decode cX1_k 1 = .ok (.getfield 34, 3) := by decide +kernel
theorem dX1_k_4 : decode cX1_k 4 = .ok (.ireturn, 1) := by decide +kernel
theorem dX1_jk_0 : decode cX1_jk 0 = .ok (.aload_n 0, 1) := by decide +kernel
theorem dX1_jk_1 : decode cX1_jk 1 = .ok (.getfield 31, 3) := by decide +kernel
theorem dX1_jk_4 : decode cX1_jk 4 = .ok (.iconst 3, 1) := by decide +kernel
theorem dX1_jk_5 : decode cX1_jk 5 = .ok (.ishl, 1) := by decide +kernel
theorem dX1_jk_6 : decode cX1_jk 6 = .ok (.aload_n 0, 1) := by decide +kernel
theorem dX1_jk_7 : decode cX1_jk 7 = .ok (.getfield 34, 3) := by decide +kernel
theorem dX1_jk_10 : decode cX1_jk 10 = .ok (.ior, 1) := by decide +kernel
theorem dX1_jk_11 : decode cX1_jk 11 = .ok (.ireturn, 1) := by decide +kernel
theorem dX1_constant_0 : decode cX1_constant 0 = .ok (.aload_n 0, 1) := by decide +kernel
theorem dX1_constant_1 : decode cX1_constant 1 = .ok (.getfield 38, 3) := by decide +kernel
theorem dX1_constant_4 : decode cX1_constant 4 = .ok (.ireturn, 1) := by decide +kernel
theorem dX1_unit_0 : decode cX1_unit 0 = .ok (.aload_n 0, 1) := by decide +kernel
theorem dX1_unit_1 : decode cX1_unit 1 = .ok (.getfield 45, 3) := by decide +kernel
theorem dX1_unit_4 : decode cX1_unit 4 = .ok (.ireturn, 1) := by decide +kernel
theorem dX1_needs_0 : decode cX1_needs 0 = .ok (.aload_n 0, 1) := by decide +kernel
theorem dX1_needs_1 : decode cX1_needs 1 = .ok (.getfield 14, 3) := by decide +kernel
theorem dX1_needs_4 : decode cX1_needs 4 = .ok (.areturn, 1) := by decide +kernel
theorem dX1_results_0 : decode cX1_results 0 = .ok (.aload_n 0, 1) := by decide +kernel
theorem dX1_results_1 : decode cX1_results 1 = .ok (.getfield 18, 3) := by decide +kernel
theorem dX1_results_4 : decode cX1_results 4 = .ok (.areturn, 1) := by decide +kernel
set_option maxRecDepth 20000 in
theorem ggX1_parcels_X1_isJump : GoodIn wsX1_parcels wsX1_isJump := goodIn_r _ [6, 1, 7, 8, 9, 10, 11, 12, 13, 14, 15] (by decide +kernel) (by decide +kernel)
set_option maxRecDepth 20000 in
theorem gX1_parcels_X1_isJump : GoodIn wsX1_parcels (wsV RX1 57 RX1 yX1_isJump wsX1_isJump) := goodIn_app (goodIn_of _ (by decide +kernel)) ggX1_parcels_X1_isJump
theorem dX1_parcels_0 : decode cX1_parcels 0 = .ok (.aload_n 0, 1) := by decide +kernel
theorem dX1_parcels_1 : decode cX1_parcels 1 = .ok (.invokevirtual 57, 3) := by decide +kernel
theorem dX1_parcels_4 : decode cX1_parcels 4 = .ok (.ifCond .ne 23, 3) := by decide +kernel
theorem dX1_parcels_7 : decode cX1_parcels 7 = .ok (.aload_n 0, 1) := by decide +kernel
theorem dX1_parcels_8 : decode cX1_parcels 8 = .ok (.getfield 25, 3) := by decide +kernel
theorem dX1_parcels_11 : decode cX1_parcels 11 = .ok (.bipush 40, 2) := by decide +kernel
theorem dX1_parcels_13 : decode cX1_parcels 13 = .ok (.if_icmp .lt 18, 3) := by decide +kernel
theorem dX1_parcels_16 : decode cX1_parcels 16 = .ok (.aload_n 0, 1) := by decide +kernel
theorem dX1_parcels_17 : decode cX1_parcels 17 = .ok (.getfield 25, 3) := by decide +kernel
theorem dX1_parcels_20 : decode cX1_parcels 20 = .ok (.bipush 7, 2) := by decide +kernel
theorem dX1_parcels_22 : decode cX1_parcels 22 = .ok (.iand, 1) := by decide +kernel
theorem dX1_parcels_23 : decode cX1_parcels 23 = .ok (.iconst 2, 1) := by decide +kernel
theorem dX1_parcels_24 : decode cX1_parcels 24 = .ok (.if_icmp .gt 7, 3) := by decide +kernel
theorem dX1_parcels_27 : decode cX1_parcels 27 = .ok (.iconst 1, 1) := by decide +kernel
theorem dX1_parcels_28 : decode cX1_parcels 28 = .ok (.goto 4, 3) := by decide +kernel
theorem dX1_parcels_31 : decode cX1_parcels 31 = .ok (.iconst 0, 1) := by decide +kernel
theorem dX1_parcels_32 : decode cX1_parcels 32 = .ok (.istore_n 1, 1) := by decide +kernel
theorem dX1_parcels_33 : decode cX1_parcels 33 = .ok (.iload_n 1, 1) := by decide +kernel
theorem dX1_parcels_34 : decode cX1_parcels 34 = .ok (.ifCond .eq 7, 3) := by decide +kernel
theorem dX1_parcels_37 : decode cX1_parcels 37 = .ok (.iconst 2, 1) := by decide +kernel
theorem dX1_parcels_38 : decode cX1_parcels 38 = .ok (.goto 4, 3) := by decide +kernel
theorem dX1_parcels_41 : decode cX1_parcels 41 = .ok (.iconst 1, 1) := by decide +kernel
theorem dX1_parcels_42 : decode cX1_parcels 42 = .ok (.ireturn, 1) := by decide +kernel
theorem dX1_isJump_0 : decode cX1_isJump 0 = .ok (.aload_n 0, 1) := by decide +kernel
theorem dX1_isJump_1 : decode cX1_isJump 1 = .ok (.getfield 25, 3) := by decide +kernel
theorem dX1_isJump_4 : decode cX1_isJump 4 = .ok (.ifCond .le 16, 3) := by decide +kernel
theorem dX1_isJump_7 : decode cX1_isJump 7 = .ok (.aload_n 0, 1) := by decide +kernel
theorem dX1_isJump_8 : decode cX1_isJump 8 = .ok (.getfield 25, 3) := by decide +kernel
theorem dX1_isJump_11 : decode cX1_isJump 11 = .ok (.bipush 7, 2) := by decide +kernel
theorem dX1_isJump_13 : decode cX1_isJump 13 = .ok (.if_icmp .gt 7, 3) := by decide +kernel
theorem dX1_isJump_16 : decode cX1_isJump 16 = .ok (.iconst 1, 1) := by decide +kernel
theorem dX1_isJump_17 : decode cX1_isJump 17 = .ok (.goto 4, 3) := by decide +kernel
theorem dX1_isJump_20 : decode cX1_isJump 20 = .ok (.iconst 0, 1) := by decide +kernel
theorem dX1_isJump_21 : decode cX1_isJump 21 = .ok (.ireturn, 1) := by decide +kernel
theorem dX1_loads_0 : decode cX1_loads 0 = .ok (.aload_n 0, 1) := by decide +kernel
theorem dX1_loads_1 : decode cX1_loads 1 = .ok (.getfield 25, 3) := by decide +kernel
theorem dX1_loads_4 : decode cX1_loads 4 = .ok (.iconst 3, 1) := by decide +kernel
theorem dX1_loads_5 : decode cX1_loads 5 = .ok (.ishr, 1) := by decide +kernel
theorem dX1_loads_6 : decode cX1_loads 6 = .ok (.iconst 5, 1) := by decide +kernel
theorem dX1_loads_7 : decode cX1_loads 7 = .ok (.if_icmp .ne 23, 3) := by decide +kernel
theorem dX1_loads_10 : decode cX1_loads 10 = .ok (.aload_n 0, 1) := by decide +kernel
theorem dX1_loads_11 : decode cX1_loads 11 = .ok (.getfield 28, 3) := by decide +kernel
theorem dX1_loads_14 : decode cX1_loads 14 = .ok (.iconst 1, 1) := by decide +kernel
theorem dX1_loads_15 : decode cX1_loads 15 = .ok (.if_icmp .lt 15, 3) := by decide +kernel
theorem dX1_loads_18 : decode cX1_loads 18 = .ok (.aload_n 0, 1) := by decide +kernel
theorem dX1_loads_19 : decode cX1_loads 19 = .ok (.getfield 28, 3) := by decide +kernel
theorem dX1_loads_22 : decode cX1_loads 22 = .ok (.iconst 5, 1) := by decide +kernel
theorem dX1_loads_23 : decode cX1_loads 23 = .ok (.if_icmp .gt 7, 3) := by decide +kernel
theorem dX1_loads_26 : decode cX1_loads 26 = .ok (.iconst 1, 1) := by decide +kernel
theorem dX1_loads_27 : decode cX1_loads 27 = .ok (.goto 4, 3) := by decide +kernel
theorem dX1_loads_30 : decode cX1_loads 30 = .ok (.iconst 0, 1) := by decide +kernel
theorem dX1_loads_31 : decode cX1_loads 31 = .ok (.ireturn, 1) := by decide +kernel
theorem dX1_stores_0 : decode cX1_stores 0 = .ok (.aload_n 0, 1) := by decide +kernel
theorem dX1_stores_1 : decode cX1_stores 1 = .ok (.getfield 25, 3) := by decide +kernel
theorem dX1_stores_4 : decode cX1_stores 4 = .ok (.iconst 3, 1) := by decide +kernel
theorem dX1_stores_5 : decode cX1_stores 5 = .ok (.ishr, 1) := by decide +kernel
theorem dX1_stores_6 : decode cX1_stores 6 = .ok (.iconst 5, 1) := by decide +kernel
theorem dX1_stores_7 : decode cX1_stores 7 = .ok (.if_icmp .ne 16, 3) := by decide +kernel
theorem dX1_stores_10 : decode cX1_stores 10 = .ok (.aload_n 0, 1) := by decide +kernel
theorem dX1_stores_11 : decode cX1_stores 11 = .ok (.getfield 28, 3) := by decide +kernel
theorem dX1_stores_14 : decode cX1_stores 14 = .ok (.bipush 6, 2) := by decide +kernel
theorem dX1_stores_16 : decode cX1_stores 16 = .ok (.if_icmp .lt 7, 3) := by decide +kernel
theorem dX1_stores_19 : decode cX1_stores 19 = .ok (.iconst 1, 1) := by decide +kernel
theorem dX1_stores_20 : decode cX1_stores 20 = .ok (.goto 4, 3) := by decide +kernel
theorem dX1_stores_23 : decode cX1_stores 23 = .ok (.iconst 0, 1) := by decide +kernel
theorem dX1_stores_24 : decode cX1_stores 24 = .ok (.ireturn, 1) := by decide +kernel
set_option maxRecDepth 20000 in
theorem ggX1_stopCode_X1_isJump : GoodIn wsX1_stopCode wsX1_isJump := goodIn_r _ [9, 1, 14, 15, 16, 17, 18, 19, 20, 21, 22] (by decide +kernel) (by decide +kernel)
set_option maxRecDepth 20000 in
theorem gX1_stopCode_X1_isJump : GoodIn wsX1_stopCode (wsV RX1 57 RX1 yX1_isJump wsX1_isJump) := goodIn_app (goodIn_of _ (by decide +kernel)) ggX1_stopCode_X1_isJump
set_option maxRecDepth 20000 in
theorem ggX1_stopCode_X1_parcels : GoodIn wsX1_stopCode wsX1_parcels := goodIn_r _ [13, 1, 5, 6, 7, 8, 9, 14, 15, 16, 17, 18, 19, 20, 21, 22] (by decide +kernel) (by decide +kernel)
set_option maxRecDepth 20000 in
theorem gX1_stopCode_X1_parcels : GoodIn wsX1_stopCode (wsV RX1 61 RX1 yX1_parcels wsX1_parcels) := goodIn_app (goodIn_of _ (by decide +kernel)) ggX1_stopCode_X1_parcels
theorem dX1_stopCode_0 : decode cX1_stopCode 0 = .ok (.aload_n 0, 1) := by decide +kernel
theorem dX1_stopCode_1 : decode cX1_stopCode 1 = .ok (.getfield 25, 3) := by decide +kernel
theorem dX1_stopCode_4 : decode cX1_stopCode 4 = .ok (.ifCond .ne 5, 3) := by decide +kernel
theorem dX1_stopCode_7 : decode cX1_stopCode 7 = .ok (.iconst 0, 1) := by decide +kernel
theorem dX1_stopCode_8 : decode cX1_stopCode 8 = .ok (.ireturn, 1) := by decide +kernel
theorem dX1_stopCode_9 : decode cX1_stopCode 9 = .ok (.aload_n 0, 1) := by decide +kernel
theorem dX1_stopCode_10 : decode cX1_stopCode 10 = .ok (.invokevirtual 57, 3) := by decide +kernel
theorem dX1_stopCode_13 : decode cX1_stopCode 13 = .ok (.ifCond .ne 20, 3) := by decide +kernel
theorem dX1_stopCode_16 : decode cX1_stopCode 16 = .ok (.aload_n 0, 1) := by decide +kernel
theorem dX1_stopCode_17 : decode cX1_stopCode 17 = .ok (.getfield 45, 3) := by decide +kernel
theorem dX1_stopCode_20 : decode cX1_stopCode 20 = .ok (.iconst (-1), 1) := by decide +kernel
theorem dX1_stopCode_21 : decode cX1_stopCode 21 = .ok (.if_icmp .ne 12, 3) := by decide +kernel
theorem dX1_stopCode_24 : decode cX1_stopCode 24 = .ok (.aload_n 0, 1) := by decide +kernel
theorem dX1_stopCode_25 : decode cX1_stopCode 25 = .ok (.getfield 25, 3) := by decide +kernel
theorem dX1_stopCode_28 : decode cX1_stopCode 28 = .ok (.bipush 38, 2) := by decide +kernel
theorem dX1_stopCode_30 : decode cX1_stopCode 30 = .ok (.if_icmp .ne 7, 3) := by decide +kernel
theorem dX1_stopCode_33 : decode cX1_stopCode 33 = .ok (.iconst 1, 1) := by decide +kernel
theorem dX1_stopCode_34 : decode cX1_stopCode 34 = .ok (.goto 4, 3) := by decide +kernel
theorem dX1_stopCode_37 : decode cX1_stopCode 37 = .ok (.iconst 0, 1) := by decide +kernel
theorem dX1_stopCode_38 : decode cX1_stopCode 38 = .ok (.istore_n 1, 1) := by decide +kernel
theorem dX1_stopCode_39 : decode cX1_stopCode 39 = .ok (.aload_n 0, 1) := by decide +kernel
theorem dX1_stopCode_40 : decode cX1_stopCode 40 = .ok (.getfield 25, 3) := by decide +kernel
theorem dX1_stopCode_43 : decode cX1_stopCode 43 = .ok (.iconst 3, 1) := by decide +kernel
theorem dX1_stopCode_44 : decode cX1_stopCode 44 = .ok (.if_icmp .ne 15, 3) := by decide +kernel
theorem dX1_stopCode_47 : decode cX1_stopCode 47 = .ok (.aload_n 0, 1) := by decide +kernel
theorem dX1_stopCode_48 : decode cX1_stopCode 48 = .ok (.getfield 28, 3) := by decide +kernel
theorem dX1_stopCode_51 : decode cX1_stopCode 51 = .ok (.iconst 3, 1) := by decide +kernel
theorem dX1_stopCode_52 : decode cX1_stopCode 52 = .ok (.if_icmp .le 7, 3) := by decide +kernel
theorem dX1_stopCode_55 : decode cX1_stopCode 55 = .ok (.iconst 1, 1) := by decide +kernel
theorem dX1_stopCode_56 : decode cX1_stopCode 56 = .ok (.goto 4, 3) := by decide +kernel
theorem dX1_stopCode_59 : decode cX1_stopCode 59 = .ok (.iconst 0, 1) := by decide +kernel
theorem dX1_stopCode_60 : decode cX1_stopCode 60 = .ok (.istore_n 2, 1) := by decide +kernel
theorem dX1_stopCode_61 : decode cX1_stopCode 61 = .ok (.iload_n 1, 1) := by decide +kernel
theorem dX1_stopCode_62 : decode cX1_stopCode 62 = .ok (.ifCond .eq 22, 3) := by decide +kernel
theorem dX1_stopCode_65 : decode cX1_stopCode 65 = .ok (.iload_n 2, 1) := by decide +kernel
theorem dX1_stopCode_66 : decode cX1_stopCode 66 = .ok (.ifCond .ne 18, 3) := by decide +kernel
theorem dX1_stopCode_69 : decode cX1_stopCode 69 = .ok (.aload_n 0, 1) := by decide +kernel
theorem dX1_stopCode_70 : decode cX1_stopCode 70 = .ok (.invokevirtual 61, 3) := by decide +kernel
theorem dX1_stopCode_73 : decode cX1_stopCode 73 = .ok (.aload_n 0, 1) := by decide +kernel
theorem dX1_stopCode_74 : decode cX1_stopCode 74 = .ok (.getfield 21, 3) := by decide +kernel
theorem dX1_stopCode_77 : decode cX1_stopCode 77 = .ok (.if_icmp .gt 7, 3) := by decide +kernel
theorem dX1_stopCode_80 : decode cX1_stopCode 80 = .ok (.iconst 3, 1) := by decide +kernel
theorem dX1_stopCode_81 : decode cX1_stopCode 81 = .ok (.goto 4, 3) := by decide +kernel
theorem dX1_stopCode_84 : decode cX1_stopCode 84 = .ok (.iconst 1, 1) := by decide +kernel
theorem dX1_stopCode_85 : decode cX1_stopCode 85 = .ok (.ireturn, 1) := by decide +kernel
theorem dX1_unitOf_0 : decode cX1_unitOf 0 = .ok (.iload_n 0, 1) := by decide +kernel
theorem dX1_unitOf_1 : decode cX1_unitOf 1 = .ok (.bipush 40, 2) := by decide +kernel
theorem dX1_unitOf_3 : decode cX1_unitOf 3 = .ok (.if_icmp .lt 5, 3) := by decide +kernel
theorem dX1_unitOf_6 : decode cX1_unitOf 6 = .ok (.iconst 4, 1) := by decide +kernel
theorem dX1_unitOf_7 : decode cX1_unitOf 7 = .ok (.ireturn, 1) := by decide +kernel
theorem dX1_unitOf_8 : decode cX1_unitOf 8 = .ok (.iload_n 0, 1) := by decide +kernel
theorem dX1_unitOf_9 : decode cX1_unitOf 9 = .ok (.bipush 8, 2) := by decide +kernel
theorem dX1_unitOf_11 : decode cX1_unitOf 11 = .ok (.if_icmp .lt 11, 3) := by decide +kernel
theorem dX1_unitOf_14 : decode cX1_unitOf 14 = .ok (.iload_n 0, 1) := by decide +kernel
theorem dX1_unitOf_15 : decode cX1_unitOf 15 = .ok (.bipush 15, 2) := by decide +kernel
theorem dX1_unitOf_17 : decode cX1_unitOf 17 = .ok (.if_icmp .gt 5, 3) := by decide +kernel
theorem dX1_unitOf_20 : decode cX1_unitOf 20 = .ok (.iconst 0, 1) := by decide +kernel
theorem dX1_unitOf_21 : decode cX1_unitOf 21 = .ok (.ireturn, 1) := by decide +kernel
theorem dX1_unitOf_22 : decode cX1_unitOf 22 = .ok (.iload_n 0, 1) := by decide +kernel
theorem dX1_unitOf_23 : decode cX1_unitOf 23 = .ok (.bipush 16, 2) := by decide +kernel
theorem dX1_unitOf_25 : decode cX1_unitOf 25 = .ok (.if_icmp .lt 9, 3) := by decide +kernel
theorem dX1_unitOf_28 : decode cX1_unitOf 28 = .ok (.iload_n 0, 1) := by decide +kernel
theorem dX1_unitOf_29 : decode cX1_unitOf 29 = .ok (.bipush 19, 2) := by decide +kernel
theorem dX1_unitOf_31 : decode cX1_unitOf 31 = .ok (.if_icmp .le 9, 3) := by decide +kernel
theorem dX1_unitOf_34 : decode cX1_unitOf 34 = .ok (.iload_n 0, 1) := by decide +kernel
theorem dX1_unitOf_35 : decode cX1_unitOf 35 = .ok (.bipush 35, 2) := by decide +kernel
theorem dX1_unitOf_37 : decode cX1_unitOf 37 = .ok (.if_icmp .ne 5, 3) := by decide +kernel
theorem dX1_unitOf_40 : decode cX1_unitOf 40 = .ok (.iconst 1, 1) := by decide +kernel
theorem dX1_unitOf_41 : decode cX1_unitOf 41 = .ok (.ireturn, 1) := by decide +kernel
theorem dX1_unitOf_42 : decode cX1_unitOf 42 = .ok (.iload_n 0, 1) := by decide +kernel
theorem dX1_unitOf_43 : decode cX1_unitOf 43 = .ok (.bipush 30, 2) := by decide +kernel
theorem dX1_unitOf_45 : decode cX1_unitOf 45 = .ok (.if_icmp .eq 9, 3) := by decide +kernel
theorem dX1_unitOf_48 : decode cX1_unitOf 48 = .ok (.iload_n 0, 1) := by decide +kernel
theorem dX1_unitOf_49 : decode cX1_unitOf 49 = .ok (.bipush 31, 2) := by decide +kernel
theorem dX1_unitOf_51 : decode cX1_unitOf 51 = .ok (.if_icmp .ne 5, 3) := by decide +kernel
theorem dX1_unitOf_54 : decode cX1_unitOf 54 = .ok (.iconst 2, 1) := by decide +kernel
theorem dX1_unitOf_55 : decode cX1_unitOf 55 = .ok (.ireturn, 1) := by decide +kernel
theorem dX1_unitOf_56 : decode cX1_unitOf 56 = .ok (.iload_n 0, 1) := by decide +kernel
theorem dX1_unitOf_57 : decode cX1_unitOf 57 = .ok (.bipush 39, 2) := by decide +kernel
theorem dX1_unitOf_59 : decode cX1_unitOf 59 = .ok (.if_icmp .ne 7, 3) := by decide +kernel
theorem dX1_unitOf_62 : decode cX1_unitOf 62 = .ok (.iconst 3, 1) := by decide +kernel
theorem dX1_unitOf_63 : decode cX1_unitOf 63 = .ok (.goto 4, 3) := by decide +kernel
theorem dX1_unitOf_66 : decode cX1_unitOf 66 = .ok (.iconst (-1), 1) := by decide +kernel
theorem dX1_unitOf_67 : decode cX1_unitOf 67 = .ok (.ireturn, 1) := by decide +kernel
set_option maxRecDepth 20000 in
theorem ggX1_listNeeds_X1_listLogicNeeds : GoodIn wsX1_listNeeds wsX1_listLogicNeeds := goodIn_r _ [9, 10, 2, 3, 4, 11, 12, 13, 14, 15, 16, 17, 18, 19, 20, 21, 55, 56, 57, 58, 59, 60, 61, 62, 63, 64, 65] (by decide +kernel) (by decide +kernel)
set_option maxRecDepth 20000 in
theorem gX1_listNeeds_X1_listLogicNeeds : GoodIn wsX1_listNeeds (wsV RX1 65 RX1 yX1_listLogicNeeds wsX1_listLogicNeeds) := goodIn_app (goodIn_of _ (by decide +kernel)) ggX1_listNeeds_X1_listLogicNeeds
set_option maxRecDepth 20000 in
theorem ggX1_listNeeds_X1_listShiftNeeds : GoodIn wsX1_listNeeds wsX1_listShiftNeeds := goodIn_r _ [25, 10, 2, 26, 3, 4, 11, 12, 13, 14, 15, 16, 17, 18, 19, 20, 21, 27, 28, 29, 30, 55, 56, 57, 58, 59, 60, 61, 62, 63, 64, 65] (by decide +kernel) (by decide +kernel)
set_option maxRecDepth 20000 in
theorem gX1_listNeeds_X1_listShiftNeeds : GoodIn wsX1_listNeeds (wsV RX1 68 RX1 yX1_listShiftNeeds wsX1_listShiftNeeds) := goodIn_app (goodIn_of _ (by decide +kernel)) ggX1_listNeeds_X1_listShiftNeeds
set_option maxRecDepth 20000 in
theorem ggX1_listNeeds_X5_addX : GoodIn wsX1_listNeeds wsX5_addX := goodIn_r _ [15, 16, 17, 18, 14, 19, 20, 21, 64, 65] (by decide +kernel) (by decide +kernel)
set_option maxRecDepth 20000 in
theorem gX1_listNeeds_X5_addX : GoodIn wsX1_listNeeds (wsV RX1 71 RX5 yX5_addX wsX5_addX) := goodIn_app (goodIn_of _ (by decide +kernel)) ggX1_listNeeds_X5_addX
set_option maxRecDepth 20000 in
theorem ggX1_listNeeds_X1_listAddressNeeds : GoodIn wsX1_listNeeds wsX1_listAddressNeeds := goodIn_r _ [34, 10, 2, 3, 4, 26, 35, 36, 37, 14, 38, 16, 17, 18, 19, 20, 21, 11, 12, 13, 15, 27, 28, 29, 30, 39, 40, 41, 8, 42, 43, 44, 45, 46, 47, 48, 49, 50, 55, 56, 57, 58, 59, 60, 61, 62, 63, 64, 65] (by decide +kernel) (by decide +kernel)
set_option maxRecDepth 20000 in
theorem gX1_listNeeds_X1_listAddressNeeds : GoodIn wsX1_listNeeds (wsV RX1 75 RX1 yX1_listAddressNeeds wsX1_listAddressNeeds) := goodIn_app (goodIn_of _ (by decide +kernel)) ggX1_listNeeds_X1_listAddressNeeds
set_option maxRecDepth 20000 in
theorem ggX1_listNeeds_X1_listJumpNeeds : GoodIn wsX1_listNeeds wsX1_listJumpNeeds := goodIn_r _ [54, 10, 2, 3, 26, 11, 12, 13, 14, 15, 16, 17, 18, 19, 20, 21, 27, 28, 29, 30, 55, 56, 57, 58, 59, 60, 61, 62, 63, 64, 65] (by decide +kernel) (by decide +kernel)
set_option maxRecDepth 20000 in
theorem gX1_listNeeds_X1_listJumpNeeds : GoodIn wsX1_listNeeds (wsV RX1 78 RX1 yX1_listJumpNeeds wsX1_listJumpNeeds) := goodIn_app (goodIn_of _ (by decide +kernel)) ggX1_listNeeds_X1_listJumpNeeds
theorem dX1_listNeeds_0 : decode cX1_listNeeds 0 = .ok (.aload_n 0, 1) := by decide +kernel
theorem dX1_listNeeds_1 : decode cX1_listNeeds 1 = .ok (.getfield 45, 3) := by decide +kernel
theorem dX1_listNeeds_4 : decode cX1_listNeeds 4 = .ok (.tableswitch 96 0 4 #[36, 43, 50, 75, 89], 36) := by decide +kernel
theorem dX1_listNeeds_40 : decode cX1_listNeeds 40 = .ok (.aload_n 0, 1) := by decide +kernel
theorem dX1_listNeeds_41 : decode cX1_listNeeds 41 = .ok (.invokevirtual 65, 3) := by decide +kernel
theorem dX1_listNeeds_44 : decode cX1_listNeeds 44 = .ok (.goto 60, 3) := by decide +kernel
theorem dX1_listNeeds_47 : decode cX1_listNeeds 47 = .ok (.aload_n 0, 1) := by decide +kernel
theorem dX1_listNeeds_48 : decode cX1_listNeeds 48 = .ok (.invokevirtual 68, 3) := by decide +kernel
theorem dX1_listNeeds_51 : decode cX1_listNeeds 51 = .ok (.goto 53, 3) := by decide +kernel
theorem dX1_listNeeds_54 : decode cX1_listNeeds 54 = .ok (.aload_n 0, 1) := by decide +kernel
theorem dX1_listNeeds_55 : decode cX1_listNeeds 55 = .ok (.getfield 14, 3) := by decide +kernel
theorem dX1_listNeeds_58 : decode cX1_listNeeds 58 = .ok (.aload_n 0, 1) := by decide +kernel
theorem dX1_listNeeds_59 : decode cX1_listNeeds 59 = .ok (.getfield 31, 3) := by decide +kernel
theorem dX1_listNeeds_62 : decode cX1_listNeeds 62 = .ok (.invokevirtual 71, 3) := by decide +kernel
theorem dX1_listNeeds_65 : decode cX1_listNeeds 65 = .ok (.aload_n 0, 1) := by decide +kernel
theorem dX1_listNeeds_66 : decode cX1_listNeeds 66 = .ok (.getfield 14, 3) := by decide +kernel
theorem dX1_listNeeds_69 : decode cX1_listNeeds 69 = .ok (.aload_n 0, 1) := by decide +kernel
theorem dX1_listNeeds_70 : decode cX1_listNeeds 70 = .ok (.getfield 34, 3) := by decide +kernel
theorem dX1_listNeeds_73 : decode cX1_listNeeds 73 = .ok (.invokevirtual 71, 3) := by decide +kernel
theorem dX1_listNeeds_76 : decode cX1_listNeeds 76 = .ok (.goto 28, 3) := by decide +kernel
theorem dX1_listNeeds_79 : decode cX1_listNeeds 79 = .ok (.aload_n 0, 1) := by decide +kernel
theorem dX1_listNeeds_80 : decode cX1_listNeeds 80 = .ok (.getfield 14, 3) := by decide +kernel
theorem dX1_listNeeds_83 : decode cX1_listNeeds 83 = .ok (.aload_n 0, 1) := by decide +kernel
theorem dX1_listNeeds_84 : decode cX1_listNeeds 84 = .ok (.getfield 34, 3) := by decide +kernel
theorem dX1_listNeeds_87 : decode cX1_listNeeds 87 = .ok (.invokevirtual 71, 3) := by decide +kernel
theorem dX1_listNeeds_90 : decode cX1_listNeeds 90 = .ok (.goto 14, 3) := by decide +kernel
theorem dX1_listNeeds_93 : decode cX1_listNeeds 93 = .ok (.aload_n 0, 1) := by decide +kernel
theorem dX1_listNeeds_94 : decode cX1_listNeeds 94 = .ok (.invokevirtual 75, 3) := by decide +kernel
theorem dX1_listNeeds_97 : decode cX1_listNeeds 97 = .ok (.goto 7, 3) := by decide +kernel
theorem dX1_listNeeds_100 : decode cX1_listNeeds 100 = .ok (.aload_n 0, 1) := by decide +kernel
theorem dX1_listNeeds_101 : decode cX1_listNeeds 101 = .ok (.invokevirtual 78, 3) := by decide +kernel
theorem dX1_listNeeds_104 : decode cX1_listNeeds 104 = .ok (.return_, 1) := by decide +kernel
set_option maxRecDepth 20000 in
theorem ggX1_listLogicNeeds_X5_addX : GoodIn wsX1_listLogicNeeds wsX5_addX := goodIn_r _ [9, 10, 11, 12, 8, 13, 14, 15, 25, 26] (by decide +kernel) (by decide +kernel)
set_option maxRecDepth 20000 in
theorem gX1_listLogicNeeds_X5_addX : GoodIn wsX1_listLogicNeeds (wsV RX1 71 RX5 yX5_addX wsX5_addX) := goodIn_app (goodIn_of _ (by decide +kernel)) ggX1_listLogicNeeds_X5_addX
theorem dX1_listLogicNeeds_0 : decode cX1_listLogicNeeds 0 = .ok (.aload_n 0, 1) := by decide +kernel
theorem dX1_listLogicNeeds_1 : decode cX1_listLogicNeeds 1 = .ok (.getfield 25, 3) := by decide +kernel
theorem dX1_listLogicNeeds_4 : decode cX1_listLogicNeeds 4 = .ok (.bipush 12, 2) := by decide +kernel
theorem dX1_listLogicNeeds_6 : decode cX1_listLogicNeeds 6 = .ok (.if_icmp .eq 14, 3) := by decide +kernel
theorem dX1_listLogicNeeds_9 : decode cX1_listLogicNeeds 9 = .ok (.aload_n 0, 1) := by decide +kernel
theorem dX1_listLogicNeeds_10 : decode cX1_listLogicNeeds 10 = .ok (.getfield 14, 3) := by decide +kernel
theorem dX1_listLogicNeeds_13 : decode cX1_listLogicNeeds 13 = .ok (.aload_n 0, 1) := by decide +kernel
theorem dX1_listLogicNeeds_14 : decode cX1_listLogicNeeds 14 = .ok (.getfield 31, 3) := by decide +kernel
theorem dX1_listLogicNeeds_17 : decode cX1_listLogicNeeds 17 = .ok (.invokevirtual 71, 3) := by decide +kernel
theorem dX1_listLogicNeeds_20 : decode cX1_listLogicNeeds 20 = .ok (.aload_n 0, 1) := by decide +kernel
theorem dX1_listLogicNeeds_21 : decode cX1_listLogicNeeds 21 = .ok (.getfield 25, 3) := by decide +kernel
theorem dX1_listLogicNeeds_24 : decode cX1_listLogicNeeds 24 = .ok (.bipush 8, 2) := by decide +kernel
theorem dX1_listLogicNeeds_26 : decode cX1_listLogicNeeds 26 = .ok (.if_icmp .eq 14, 3) := by decide +kernel
theorem dX1_listLogicNeeds_29 : decode cX1_listLogicNeeds 29 = .ok (.aload_n 0, 1) := by decide +kernel
theorem dX1_listLogicNeeds_30 : decode cX1_listLogicNeeds 30 = .ok (.getfield 14, 3) := by decide +kernel
theorem dX1_listLogicNeeds_33 : decode cX1_listLogicNeeds 33 = .ok (.aload_n 0, 1) := by decide +kernel
theorem dX1_listLogicNeeds_34 : decode cX1_listLogicNeeds 34 = .ok (.getfield 34, 3) := by decide +kernel
theorem dX1_listLogicNeeds_37 : decode cX1_listLogicNeeds 37 = .ok (.invokevirtual 71, 3) := by decide +kernel
theorem dX1_listLogicNeeds_40 : decode cX1_listLogicNeeds 40 = .ok (.return_, 1) := by decide +kernel
set_option maxRecDepth 20000 in
theorem ggX1_listShiftNeeds_X5_addX : GoodIn wsX1_listShiftNeeds wsX5_addX := goodIn_r _ [10, 11, 12, 13, 9, 14, 15, 16, 30, 31] (by decide +kernel) (by decide +kernel)
set_option maxRecDepth 20000 in
theorem gX1_listShiftNeeds_X5_addX : GoodIn wsX1_listShiftNeeds (wsV RX1 71 RX5 yX5_addX wsX5_addX) := goodIn_app (goodIn_of _ (by decide +kernel)) ggX1_listShiftNeeds_X5_addX
set_option maxRecDepth 20000 in
theorem ggX1_listShiftNeeds_X5_addB : GoodIn wsX1_listShiftNeeds wsX5_addB := goodIn_r _ [20, 11, 12, 13, 9, 14, 15, 16, 30, 31] (by decide +kernel) (by decide +kernel)
set_option maxRecDepth 20000 in
theorem gX1_listShiftNeeds_X5_addB : GoodIn wsX1_listShiftNeeds (wsV RX1 81 RX5 yX5_addB wsX5_addB) := goodIn_app (goodIn_of _ (by decide +kernel)) ggX1_listShiftNeeds_X5_addB
theorem dX1_listShiftNeeds_0 : decode cX1_listShiftNeeds 0 = .ok (.aload_n 0, 1) := by decide +kernel
theorem dX1_listShiftNeeds_1 : decode cX1_listShiftNeeds 1 = .ok (.getfield 25, 3) := by decide +kernel
theorem dX1_listShiftNeeds_4 : decode cX1_listShiftNeeds 4 = .ok (.bipush 16, 2) := by decide +kernel
theorem dX1_listShiftNeeds_6 : decode cX1_listShiftNeeds 6 = .ok (.if_icmp .eq 12, 3) := by decide +kernel
theorem dX1_listShiftNeeds_9 : decode cX1_listShiftNeeds 9 = .ok (.aload_n 0, 1) := by decide +kernel
theorem dX1_listShiftNeeds_10 : decode cX1_listShiftNeeds 10 = .ok (.getfield 25, 3) := by decide +kernel
theorem dX1_listShiftNeeds_13 : decode cX1_listShiftNeeds 13 = .ok (.bipush 17, 2) := by decide +kernel
theorem dX1_listShiftNeeds_15 : decode cX1_listShiftNeeds 15 = .ok (.if_icmp .ne 17, 3) := by decide +kernel
theorem dX1_listShiftNeeds_18 : decode cX1_listShiftNeeds 18 = .ok (.aload_n 0, 1) := by decide +kernel
theorem dX1_listShiftNeeds_19 : decode cX1_listShiftNeeds 19 = .ok (.getfield 14, 3) := by decide +kernel
theorem dX1_listShiftNeeds_22 : decode cX1_listShiftNeeds 22 = .ok (.aload_n 0, 1) := by decide +kernel
theorem dX1_listShiftNeeds_23 : decode cX1_listShiftNeeds 23 = .ok (.getfield 28, 3) := by decide +kernel
theorem dX1_listShiftNeeds_26 : decode cX1_listShiftNeeds 26 = .ok (.invokevirtual 71, 3) := by decide +kernel
theorem dX1_listShiftNeeds_29 : decode cX1_listShiftNeeds 29 = .ok (.goto 43, 3) := by decide +kernel
theorem dX1_listShiftNeeds_32 : decode cX1_listShiftNeeds 32 = .ok (.aload_n 0, 1) := by decide +kernel
theorem dX1_listShiftNeeds_33 : decode cX1_listShiftNeeds 33 = .ok (.getfield 25, 3) := by decide +kernel
theorem dX1_listShiftNeeds_36 : decode cX1_listShiftNeeds 36 = .ok (.bipush 18, 2) := by decide +kernel
theorem dX1_listShiftNeeds_38 : decode cX1_listShiftNeeds 38 = .ok (.if_icmp .eq 12, 3) := by decide +kernel
theorem dX1_listShiftNeeds_41 : decode cX1_listShiftNeeds 41 = .ok (.aload_n 0, 1) := by decide +kernel
theorem dX1_listShiftNeeds_42 : decode cX1_listShiftNeeds 42 = .ok (.getfield 25, 3) := by decide +kernel
theorem dX1_listShiftNeeds_45 : decode cX1_listShiftNeeds 45 = .ok (.bipush 19, 2) := by decide +kernel
theorem dX1_listShiftNeeds_47 : decode cX1_listShiftNeeds 47 = .ok (.if_icmp .ne 25, 3) := by decide +kernel
theorem dX1_listShiftNeeds_50 : decode cX1_listShiftNeeds 50 = .ok (.aload_n 0, 1) := by decide +kernel
theorem dX1_listShiftNeeds_51 : decode cX1_listShiftNeeds 51 = .ok (.getfield 14, 3) := by decide +kernel
theorem dX1_listShiftNeeds_54 : decode cX1_listShiftNeeds 54 = .ok (.aload_n 0, 1) := by decide +kernel
theorem dX1_listShiftNeeds_55 : decode cX1_listShiftNeeds 55 = .ok (.getfield 31, 3) := by decide +kernel
theorem dX1_listShiftNeeds_58 : decode cX1_listShiftNeeds 58 = .ok (.invokevirtual 81, 3) := by decide +kernel
theorem dX1_listShiftNeeds_61 : decode cX1_listShiftNeeds 61 = .ok (.aload_n 0, 1) := by decide +kernel
theorem dX1_listShiftNeeds_62 : decode cX1_listShiftNeeds 62 = .ok (.getfield 14, 3) := by decide +kernel
theorem dX1_listShiftNeeds_65 : decode cX1_listShiftNeeds 65 = .ok (.aload_n 0, 1) := by decide +kernel
theorem dX1_listShiftNeeds_66 : decode cX1_listShiftNeeds 66 = .ok (.getfield 34, 3) := by decide +kernel
theorem dX1_listShiftNeeds_69 : decode cX1_listShiftNeeds 69 = .ok (.invokevirtual 71, 3) := by decide +kernel
theorem dX1_listShiftNeeds_72 : decode cX1_listShiftNeeds 72 = .ok (.return_, 1) := by decide +kernel
set_option maxRecDepth 20000 in
theorem ggX1_listAddressNeeds_X5_addA : GoodIn wsX1_listAddressNeeds wsX5_addA := goodIn_r _ [10, 11, 12, 13, 9, 14, 15, 16, 47, 48] (by decide +kernel) (by decide +kernel)
set_option maxRecDepth 20000 in
theorem gX1_listAddressNeeds_X5_addA : GoodIn wsX1_listAddressNeeds (wsV RX1 84 RX5 yX5_addA wsX5_addA) := goodIn_app (goodIn_of _ (by decide +kernel)) ggX1_listAddressNeeds_X5_addA
set_option maxRecDepth 20000 in
theorem ggX1_listAddressNeeds_X5_addX : GoodIn wsX1_listAddressNeeds wsX5_addX := goodIn_r _ [20, 11, 12, 13, 9, 14, 15, 16, 47, 48] (by decide +kernel) (by decide +kernel)
set_option maxRecDepth 20000 in
theorem gX1_listAddressNeeds_X5_addX : GoodIn wsX1_listAddressNeeds (wsV RX1 71 RX5 yX5_addX wsX5_addX) := goodIn_app (goodIn_of _ (by decide +kernel)) ggX1_listAddressNeeds_X5_addX
set_option maxRecDepth 20000 in
theorem ggX1_listAddressNeeds_X5_addB : GoodIn wsX1_listAddressNeeds wsX5_addB := goodIn_r _ [24, 11, 12, 13, 9, 14, 15, 16, 47, 48] (by decide +kernel) (by decide +kernel)
set_option maxRecDepth 20000 in
theorem gX1_listAddressNeeds_X5_addB : GoodIn wsX1_listAddressNeeds (wsV RX1 81 RX5 yX5_addB wsX5_addB) := goodIn_app (goodIn_of _ (by decide +kernel)) ggX1_listAddressNeeds_X5_addB
set_option maxRecDepth 20000 in
theorem ggX1_listAddressNeeds_X1_parcels : GoodIn wsX1_listAddressNeeds wsX1_parcels := goodIn_r _ [29, 1, 30, 31, 32, 28, 33, 38, 39, 40, 41, 42, 43, 44, 45, 46] (by decide +kernel) (by decide +kernel)
set_option maxRecDepth 20000 in
theorem gX1_listAddressNeeds_X1_parcels : GoodIn wsX1_listAddressNeeds (wsV RX1 61 RX1 yX1_parcels wsX1_parcels) := goodIn_app (goodIn_of _ (by decide +kernel)) ggX1_listAddressNeeds_X1_parcels
set_option maxRecDepth 20000 in
theorem ggX1_listAddressNeeds_X1_stores : GoodIn wsX1_listAddressNeeds wsX1_stores := goodIn_r _ [37, 1, 5, 38, 39, 40, 41, 42, 43, 44, 45, 46] (by decide +kernel) (by decide +kernel)
set_option maxRecDepth 20000 in
theorem gX1_listAddressNeeds_X1_stores : GoodIn wsX1_listAddressNeeds (wsV RX1 87 RX1 yX1_stores wsX1_stores) := goodIn_app (goodIn_of _ (by decide +kernel)) ggX1_listAddressNeeds_X1_stores
theorem dX1_listAddressNeeds_0 : decode cX1_listAddressNeeds 0 = .ok (.aload_n 0, 1) := by decide +kernel
theorem dX1_listAddressNeeds_1 : decode cX1_listAddressNeeds 1 = .ok (.getfield 25, 3) := by decide +kernel
theorem dX1_listAddressNeeds_4 : decode cX1_listAddressNeeds 4 = .ok (.bipush 7, 2) := by decide +kernel
theorem dX1_listAddressNeeds_6 : decode cX1_listAddressNeeds 6 = .ok (.iand, 1) := by decide +kernel
theorem dX1_listAddressNeeds_7 : decode cX1_listAddressNeeds 7 = .ok (.tableswitch 65 0 5 #[37, 65, 51, 51, 37, 37], 37) := by decide +kernel
theorem dX1_listAddressNeeds_44 : decode cX1_listAddressNeeds 44 = .ok (.aload_n 0, 1) := by decide +kernel
theorem dX1_listAddressNeeds_45 : decode cX1_listAddressNeeds 45 = .ok (.getfield 14, 3) := by decide +kernel
theorem dX1_listAddressNeeds_48 : decode cX1_listAddressNeeds 48 = .ok (.aload_n 0, 1) := by decide +kernel
theorem dX1_listAddressNeeds_49 : decode cX1_listAddressNeeds 49 = .ok (.getfield 31, 3) := by decide +kernel
theorem dX1_listAddressNeeds_52 : decode cX1_listAddressNeeds 52 = .ok (.invokevirtual 84, 3) := by decide +kernel
theorem dX1_listAddressNeeds_55 : decode cX1_listAddressNeeds 55 = .ok (.goto 28, 3) := by decide +kernel
theorem dX1_listAddressNeeds_58 : decode cX1_listAddressNeeds 58 = .ok (.aload_n 0, 1) := by decide +kernel
theorem dX1_listAddressNeeds_59 : decode cX1_listAddressNeeds 59 = .ok (.getfield 14, 3) := by decide +kernel
theorem dX1_listAddressNeeds_62 : decode cX1_listAddressNeeds 62 = .ok (.aload_n 0, 1) := by decide +kernel
theorem dX1_listAddressNeeds_63 : decode cX1_listAddressNeeds 63 = .ok (.getfield 31, 3) := by decide +kernel
theorem dX1_listAddressNeeds_66 : decode cX1_listAddressNeeds 66 = .ok (.invokevirtual 71, 3) := by decide +kernel
theorem dX1_listAddressNeeds_69 : decode cX1_listAddressNeeds 69 = .ok (.goto 14, 3) := by decide +kernel
theorem dX1_listAddressNeeds_72 : decode cX1_listAddressNeeds 72 = .ok (.aload_n 0, 1) := by decide +kernel
theorem dX1_listAddressNeeds_73 : decode cX1_listAddressNeeds 73 = .ok (.getfield 14, 3) := by decide +kernel
theorem dX1_listAddressNeeds_76 : decode cX1_listAddressNeeds 76 = .ok (.aload_n 0, 1) := by decide +kernel
theorem dX1_listAddressNeeds_77 : decode cX1_listAddressNeeds 77 = .ok (.getfield 31, 3) := by decide +kernel
theorem dX1_listAddressNeeds_80 : decode cX1_listAddressNeeds 80 = .ok (.invokevirtual 81, 3) := by decide +kernel
theorem dX1_listAddressNeeds_83 : decode cX1_listAddressNeeds 83 = .ok (.aload_n 0, 1) := by decide +kernel
theorem dX1_listAddressNeeds_84 : decode cX1_listAddressNeeds 84 = .ok (.invokevirtual 61, 3) := by decide +kernel
theorem dX1_listAddressNeeds_87 : decode cX1_listAddressNeeds 87 = .ok (.iconst 1, 1) := by decide +kernel
theorem dX1_listAddressNeeds_88 : decode cX1_listAddressNeeds 88 = .ok (.if_icmp .ne 14, 3) := by decide +kernel
theorem dX1_listAddressNeeds_91 : decode cX1_listAddressNeeds 91 = .ok (.aload_n 0, 1) := by decide +kernel
theorem dX1_listAddressNeeds_92 : decode cX1_listAddressNeeds 92 = .ok (.getfield 14, 3) := by decide +kernel
theorem dX1_listAddressNeeds_95 : decode cX1_listAddressNeeds 95 = .ok (.aload_n 0, 1) := by decide +kernel
theorem dX1_listAddressNeeds_96 : decode cX1_listAddressNeeds 96 = .ok (.getfield 34, 3) := by decide +kernel
theorem dX1_listAddressNeeds_99 : decode cX1_listAddressNeeds 99 = .ok (.invokevirtual 81, 3) := by decide +kernel
theorem dX1_listAddressNeeds_102 : decode cX1_listAddressNeeds 102 = .ok (.aload_n 0, 1) := by decide +kernel
theorem dX1_listAddressNeeds_103 : decode cX1_listAddressNeeds 103 = .ok (.invokevirtual 87, 3) := by decide +kernel
theorem dX1_listAddressNeeds_106 : decode cX1_listAddressNeeds 106 = .ok (.ifCond .eq 14, 3) := by decide +kernel
theorem dX1_listAddressNeeds_109 : decode cX1_listAddressNeeds 109 = .ok (.aload_n 0, 1) := by decide +kernel
theorem dX1_listAddressNeeds_110 : decode cX1_listAddressNeeds 110 = .ok (.getfield 14, 3) := by decide +kernel
theorem dX1_listAddressNeeds_113 : decode cX1_listAddressNeeds 113 = .ok (.aload_n 0, 1) := by decide +kernel
theorem dX1_listAddressNeeds_114 : decode cX1_listAddressNeeds 114 = .ok (.getfield 28, 3) := by decide +kernel
theorem dX1_listAddressNeeds_117 : decode cX1_listAddressNeeds 117 = .ok (.invokevirtual 71, 3) := by decide +kernel
theorem dX1_listAddressNeeds_120 : decode cX1_listAddressNeeds 120 = .ok (.return_, 1) := by decide +kernel
set_option maxRecDepth 20000 in
theorem ggX1_listJumpNeeds_X5_addX : GoodIn wsX1_listJumpNeeds wsX5_addX := goodIn_r _ [9, 10, 11, 12, 8, 13, 14, 15, 29, 30] (by decide +kernel) (by decide +kernel)
set_option maxRecDepth 20000 in
theorem gX1_listJumpNeeds_X5_addX : GoodIn wsX1_listJumpNeeds (wsV RX1 71 RX5 yX5_addX wsX5_addX) := goodIn_app (goodIn_of _ (by decide +kernel)) ggX1_listJumpNeeds_X5_addX
set_option maxRecDepth 20000 in
theorem ggX1_listJumpNeeds_X5_addB : GoodIn wsX1_listJumpNeeds wsX5_addB := goodIn_r _ [19, 10, 11, 12, 8, 13, 14, 15, 29, 30] (by decide +kernel) (by decide +kernel)
set_option maxRecDepth 20000 in
theorem gX1_listJumpNeeds_X5_addB : GoodIn wsX1_listJumpNeeds (wsV RX1 81 RX5 yX5_addB wsX5_addB) := goodIn_app (goodIn_of _ (by decide +kernel)) ggX1_listJumpNeeds_X5_addB
theorem dX1_listJumpNeeds_0 : decode cX1_listJumpNeeds 0 = .ok (.aload_n 0, 1) := by decide +kernel
theorem dX1_listJumpNeeds_1 : decode cX1_listJumpNeeds 1 = .ok (.getfield 25, 3) := by decide +kernel
theorem dX1_listJumpNeeds_4 : decode cX1_listJumpNeeds 4 = .ok (.iconst 3, 1) := by decide +kernel
theorem dX1_listJumpNeeds_5 : decode cX1_listJumpNeeds 5 = .ok (.if_icmp .ne 17, 3) := by decide +kernel
theorem dX1_listJumpNeeds_8 : decode cX1_listJumpNeeds 8 = .ok (.aload_n 0, 1) := by decide +kernel
theorem dX1_listJumpNeeds_9 : decode cX1_listJumpNeeds 9 = .ok (.getfield 14, 3) := by decide +kernel
theorem dX1_listJumpNeeds_12 : decode cX1_listJumpNeeds 12 = .ok (.aload_n 0, 1) := by decide +kernel
theorem dX1_listJumpNeeds_13 : decode cX1_listJumpNeeds 13 = .ok (.getfield 31, 3) := by decide +kernel
theorem dX1_listJumpNeeds_16 : decode cX1_listJumpNeeds 16 = .ok (.invokevirtual 71, 3) := by decide +kernel
theorem dX1_listJumpNeeds_19 : decode cX1_listJumpNeeds 19 = .ok (.goto 64, 3) := by decide +kernel
theorem dX1_listJumpNeeds_22 : decode cX1_listJumpNeeds 22 = .ok (.aload_n 0, 1) := by decide +kernel
theorem dX1_listJumpNeeds_23 : decode cX1_listJumpNeeds 23 = .ok (.getfield 25, 3) := by decide +kernel
theorem dX1_listJumpNeeds_26 : decode cX1_listJumpNeeds 26 = .ok (.iconst 2, 1) := by decide +kernel
theorem dX1_listJumpNeeds_27 : decode cX1_listJumpNeeds 27 = .ok (.if_icmp .ne 17, 3) := by decide +kernel
theorem dX1_listJumpNeeds_30 : decode cX1_listJumpNeeds 30 = .ok (.aload_n 0, 1) := by decide +kernel
theorem dX1_listJumpNeeds_31 : decode cX1_listJumpNeeds 31 = .ok (.getfield 14, 3) := by decide +kernel
theorem dX1_listJumpNeeds_34 : decode cX1_listJumpNeeds 34 = .ok (.aload_n 0, 1) := by decide +kernel
theorem dX1_listJumpNeeds_35 : decode cX1_listJumpNeeds 35 = .ok (.getfield 28, 3) := by decide +kernel
theorem dX1_listJumpNeeds_38 : decode cX1_listJumpNeeds 38 = .ok (.invokevirtual 81, 3) := by decide +kernel
theorem dX1_listJumpNeeds_41 : decode cX1_listJumpNeeds 41 = .ok (.goto 42, 3) := by decide +kernel
theorem dX1_listJumpNeeds_44 : decode cX1_listJumpNeeds 44 = .ok (.aload_n 0, 1) := by decide +kernel
theorem dX1_listJumpNeeds_45 : decode cX1_listJumpNeeds 45 = .ok (.getfield 25, 3) := by decide +kernel
theorem dX1_listJumpNeeds_48 : decode cX1_listJumpNeeds 48 = .ok (.iconst 4, 1) := by decide +kernel
theorem dX1_listJumpNeeds_49 : decode cX1_listJumpNeeds 49 = .ok (.if_icmp .lt 34, 3) := by decide +kernel
theorem dX1_listJumpNeeds_52 : decode cX1_listJumpNeeds 52 = .ok (.aload_n 0, 1) := by decide +kernel
theorem dX1_listJumpNeeds_53 : decode cX1_listJumpNeeds 53 = .ok (.getfield 25, 3) := by decide +kernel
theorem dX1_listJumpNeeds_56 : decode cX1_listJumpNeeds 56 = .ok (.bipush 7, 2) := by decide +kernel
theorem dX1_listJumpNeeds_58 : decode cX1_listJumpNeeds 58 = .ok (.if_icmp .gt 25, 3) := by decide +kernel
theorem dX1_listJumpNeeds_61 : decode cX1_listJumpNeeds 61 = .ok (.aload_n 0, 1) := by decide +kernel
theorem dX1_listJumpNeeds_62 : decode cX1_listJumpNeeds 62 = .ok (.getfield 14, 3) := by decide +kernel
theorem dX1_listJumpNeeds_65 : decode cX1_listJumpNeeds 65 = .ok (.aload_n 0, 1) := by decide +kernel
theorem dX1_listJumpNeeds_66 : decode cX1_listJumpNeeds 66 = .ok (.getfield 28, 3) := by decide +kernel
theorem dX1_listJumpNeeds_69 : decode cX1_listJumpNeeds 69 = .ok (.invokevirtual 81, 3) := by decide +kernel
theorem dX1_listJumpNeeds_72 : decode cX1_listJumpNeeds 72 = .ok (.aload_n 0, 1) := by decide +kernel
theorem dX1_listJumpNeeds_73 : decode cX1_listJumpNeeds 73 = .ok (.getfield 14, 3) := by decide +kernel
theorem dX1_listJumpNeeds_76 : decode cX1_listJumpNeeds 76 = .ok (.aload_n 0, 1) := by decide +kernel
theorem dX1_listJumpNeeds_77 : decode cX1_listJumpNeeds 77 = .ok (.getfield 31, 3) := by decide +kernel
theorem dX1_listJumpNeeds_80 : decode cX1_listJumpNeeds 80 = .ok (.invokevirtual 81, 3) := by decide +kernel
theorem dX1_listJumpNeeds_83 : decode cX1_listJumpNeeds 83 = .ok (.return_, 1) := by decide +kernel
set_option maxRecDepth 20000 in
theorem ggX1_listResults_X5_addA : GoodIn wsX1_listResults wsX5_addA := goodIn_r _ [9, 10, 11, 12, 8, 13, 14, 15, 38, 39] (by decide +kernel) (by decide +kernel)
set_option maxRecDepth 20000 in
theorem gX1_listResults_X5_addA : GoodIn wsX1_listResults (wsV RX1 84 RX5 yX5_addA wsX5_addA) := goodIn_app (goodIn_of _ (by decide +kernel)) ggX1_listResults_X5_addA
set_option maxRecDepth 20000 in
theorem ggX1_listResults_X1_loads : GoodIn wsX1_listResults wsX1_loads := goodIn_r _ [20, 2, 4, 29, 30, 31, 32, 33, 34, 35, 36, 37] (by decide +kernel) (by decide +kernel)
set_option maxRecDepth 20000 in
theorem gX1_listResults_X1_loads : GoodIn wsX1_listResults (wsV RX1 90 RX1 yX1_loads wsX1_loads) := goodIn_app (goodIn_of _ (by decide +kernel)) ggX1_listResults_X1_loads
set_option maxRecDepth 20000 in
theorem ggX1_listResults_X5_addX : GoodIn wsX1_listResults wsX5_addX := goodIn_r _ [24, 10, 11, 12, 8, 13, 14, 15, 38, 39] (by decide +kernel) (by decide +kernel)
set_option maxRecDepth 20000 in
theorem gX1_listResults_X5_addX : GoodIn wsX1_listResults (wsV RX1 71 RX5 yX5_addX wsX5_addX) := goodIn_app (goodIn_of _ (by decide +kernel)) ggX1_listResults_X5_addX
set_option maxRecDepth 20000 in
theorem ggX1_listResults_X5_addB : GoodIn wsX1_listResults wsX5_addB := goodIn_r _ [28, 10, 11, 12, 8, 13, 14, 15, 38, 39] (by decide +kernel) (by decide +kernel)
set_option maxRecDepth 20000 in
theorem gX1_listResults_X5_addB : GoodIn wsX1_listResults (wsV RX1 81 RX5 yX5_addB wsX5_addB) := goodIn_app (goodIn_of _ (by decide +kernel)) ggX1_listResults_X5_addB
theorem dX1_listResults_0 : decode cX1_listResults 0 = .ok (.aload_n 0, 1) := by decide +kernel
theorem dX1_listResults_1 : decode cX1_listResults 1 = .ok (.getfield 45, 3) := by decide +kernel
theorem dX1_listResults_4 : decode cX1_listResults 4 = .ok (.iconst (-1), 1) := by decide +kernel
theorem dX1_listResults_5 : decode cX1_listResults 5 = .ok (.if_icmp .ne 4, 3) := by decide +kernel
theorem dX1_listResults_8 : decode cX1_listResults 8 = .ok (.return_, 1) := by decide +kernel
theorem dX1_listResults_9 : decode cX1_listResults 9 = .ok (.aload_n 0, 1) := by decide +kernel
theorem dX1_listResults_10 : decode cX1_listResults 10 = .ok (.getfield 25, 3) := by decide +kernel
theorem dX1_listResults_13 : decode cX1_listResults 13 = .ok (.iconst 3, 1) := by decide +kernel
theorem dX1_listResults_14 : decode cX1_listResults 14 = .ok (.ishr, 1) := by decide +kernel
theorem dX1_listResults_15 : decode cX1_listResults 15 = .ok (.lookupswitch 71 #[(5, 25), (6, 57)], 25) := by decide +kernel
theorem dX1_listResults_40 : decode cX1_listResults 40 = .ok (.aload_n 0, 1) := by decide +kernel
theorem dX1_listResults_41 : decode cX1_listResults 41 = .ok (.getfield 18, 3) := by decide +kernel
theorem dX1_listResults_44 : decode cX1_listResults 44 = .ok (.aload_n 0, 1) := by decide +kernel
theorem dX1_listResults_45 : decode cX1_listResults 45 = .ok (.getfield 28, 3) := by decide +kernel
theorem dX1_listResults_48 : decode cX1_listResults 48 = .ok (.invokevirtual 84, 3) := by decide +kernel
theorem dX1_listResults_51 : decode cX1_listResults 51 = .ok (.aload_n 0, 1) := by decide +kernel
theorem dX1_listResults_52 : decode cX1_listResults 52 = .ok (.invokevirtual 90, 3) := by decide +kernel
theorem dX1_listResults_55 : decode cX1_listResults 55 = .ok (.ifCond .eq 42, 3) := by decide +kernel
theorem dX1_listResults_58 : decode cX1_listResults 58 = .ok (.aload_n 0, 1) := by decide +kernel
theorem dX1_listResults_59 : decode cX1_listResults 59 = .ok (.getfield 18, 3) := by decide +kernel
theorem dX1_listResults_62 : decode cX1_listResults 62 = .ok (.aload_n 0, 1) := by decide +kernel
theorem dX1_listResults_63 : decode cX1_listResults 63 = .ok (.getfield 28, 3) := by decide +kernel
theorem dX1_listResults_66 : decode cX1_listResults 66 = .ok (.invokevirtual 71, 3) := by decide +kernel
theorem dX1_listResults_69 : decode cX1_listResults 69 = .ok (.goto 28, 3) := by decide +kernel
theorem dX1_listResults_72 : decode cX1_listResults 72 = .ok (.aload_n 0, 1) := by decide +kernel
theorem dX1_listResults_73 : decode cX1_listResults 73 = .ok (.getfield 18, 3) := by decide +kernel
theorem dX1_listResults_76 : decode cX1_listResults 76 = .ok (.aload_n 0, 1) := by decide +kernel
theorem dX1_listResults_77 : decode cX1_listResults 77 = .ok (.getfield 28, 3) := by decide +kernel
theorem dX1_listResults_80 : decode cX1_listResults 80 = .ok (.invokevirtual 81, 3) := by decide +kernel
theorem dX1_listResults_83 : decode cX1_listResults 83 = .ok (.goto 14, 3) := by decide +kernel
theorem dX1_listResults_86 : decode cX1_listResults 86 = .ok (.aload_n 0, 1) := by decide +kernel
theorem dX1_listResults_87 : decode cX1_listResults 87 = .ok (.getfield 18, 3) := by decide +kernel
theorem dX1_listResults_90 : decode cX1_listResults 90 = .ok (.aload_n 0, 1) := by decide +kernel
theorem dX1_listResults_91 : decode cX1_listResults 91 = .ok (.getfield 28, 3) := by decide +kernel
theorem dX1_listResults_94 : decode cX1_listResults 94 = .ok (.invokevirtual 71, 3) := by decide +kernel
theorem dX1_listResults_97 : decode cX1_listResults 97 = .ok (.return_, 1) := by decide +kernel
set_option maxRecDepth 20000 in
theorem ggX2_goesElsewhere_X1_op : GoodIn wsX2_goesElsewhere wsX1_op := goodIn_r _ [5, 6, 54, 55, 56, 57, 58, 59, 60, 61, 62] (by decide +kernel) (by decide +kernel)
set_option maxRecDepth 20000 in
theorem gX2_goesElsewhere_X1_op : GoodIn wsX2_goesElsewhere (wsV RX2 9 RX1 yX1_op wsX1_op) := goodIn_app (goodIn_of _ (by decide +kernel)) ggX2_goesElsewhere_X1_op
set_option maxRecDepth 20000 in
theorem ggX2_goesElsewhere_X1_i : GoodIn wsX2_goesElsewhere wsX1_i := goodIn_r _ [10, 11, 54, 55, 56, 57, 58, 59, 60, 61, 62] (by decide +kernel) (by decide +kernel)
set_option maxRecDepth 20000 in
theorem gX2_goesElsewhere_X1_i : GoodIn wsX2_goesElsewhere (wsV RX2 15 RX1 yX1_i wsX1_i) := goodIn_app (goodIn_of _ (by decide +kernel)) ggX2_goesElsewhere_X1_i
set_option maxRecDepth 20000 in
theorem ggX2_goesElsewhere_X1_j : GoodIn wsX2_goesElsewhere wsX1_j := goodIn_r _ [15, 16, 54, 55, 56, 57, 58, 59, 60, 61, 62] (by decide +kernel) (by decide +kernel)
set_option maxRecDepth 20000 in
theorem gX2_goesElsewhere_X1_j : GoodIn wsX2_goesElsewhere (wsV RX2 18 RX1 yX1_j wsX1_j) := goodIn_app (goodIn_of _ (by decide +kernel)) ggX2_goesElsewhere_X1_j
set_option maxRecDepth 20000 in
theorem ggX2_goesElsewhere_X6_x : GoodIn wsX2_goesElsewhere wsX6_x := goodIn_r _ [21, 22, 63] (by decide +kernel) (by decide +kernel)
set_option maxRecDepth 20000 in
theorem gX2_goesElsewhere_X6_x : GoodIn wsX2_goesElsewhere (wsV RX2 21 RX6 yX6_x wsX6_x) := goodIn_app (goodIn_of _ (by decide +kernel)) ggX2_goesElsewhere_X6_x
set_option maxRecDepth 20000 in
theorem ggX2_goesElsewhere_X2_wordHolds : GoodIn wsX2_goesElsewhere wsX2_wordHolds := goodIn_r _ [26, 27, 28, 29, 30, 31, 32, 33, 34] (by decide +kernel) (by decide +kernel)
set_option maxRecDepth 20000 in
theorem gX2_goesElsewhere_X2_wordHolds : GoodIn wsX2_goesElsewhere (va_wsS RX2 27 yX2_wordHolds wsX2_wordHolds) := goodIn_app (goodIn_of _ (by decide +kernel)) ggX2_goesElsewhere_X2_wordHolds
set_option maxRecDepth 20000 in
theorem ggX2_goesElsewhere_X6_b : GoodIn wsX2_goesElsewhere wsX6_b := goodIn_r _ [38, 22, 63] (by decide +kernel) (by decide +kernel)
set_option maxRecDepth 20000 in
theorem gX2_goesElsewhere_X6_b : GoodIn wsX2_goesElsewhere (wsV RX2 33 RX6 yX6_b wsX6_b) := goodIn_app (goodIn_of _ (by decide +kernel)) ggX2_goesElsewhere_X6_b
set_option maxRecDepth 20000 in
theorem ggX2_goesElsewhere_X2_shortsHold : GoodIn wsX2_goesElsewhere wsX2_shortsHold := goodIn_r _ [41, 42, 43, 29, 44, 45, 46, 47, 48, 49, 50, 51, 52, 53] (by decide +kernel) (by decide +kernel)
set_option maxRecDepth 20000 in
theorem gX2_goesElsewhere_X2_shortsHold : GoodIn wsX2_goesElsewhere (va_wsS RX2 36 yX2_shortsHold wsX2_shortsHold) := goodIn_app (goodIn_of _ (by decide +kernel)) ggX2_goesElsewhere_X2_shortsHold
theorem dX2_goesElsewhere_0 : decode cX2_goesElsewhere 0 = .ok (.aload_n 0, 1) := by decide +kernel
theorem dX2_goesElsewhere_1 : decode cX2_goesElsewhere 1 = .ok (.invokevirtual 9, 3) := by decide +kernel
theorem dX2_goesElsewhere_4 : decode cX2_goesElsewhere 4 = .ok (.iconst 1, 1) := by decide +kernel
theorem dX2_goesElsewhere_5 : decode cX2_goesElsewhere 5 = .ok (.if_icmp .eq 11, 3) := by decide +kernel
theorem dX2_goesElsewhere_8 : decode cX2_goesElsewhere 8 = .ok (.aload_n 0, 1) := by decide +kernel
theorem dX2_goesElsewhere_9 : decode cX2_goesElsewhere 9 = .ok (.invokevirtual 9, 3) := by decide +kernel
theorem dX2_goesElsewhere_12 : decode cX2_goesElsewhere 12 = .ok (.iconst 2, 1) := by decide +kernel
theorem dX2_goesElsewhere_13 : decode cX2_goesElsewhere 13 = .ok (.if_icmp .ne 5, 3) := by decide +kernel
theorem dX2_goesElsewhere_16 : decode cX2_goesElsewhere 16 = .ok (.iconst 1, 1) := by decide +kernel
theorem dX2_goesElsewhere_17 : decode cX2_goesElsewhere 17 = .ok (.ireturn, 1) := by decide +kernel
theorem dX2_goesElsewhere_18 : decode cX2_goesElsewhere 18 = .ok (.aload_n 0, 1) := by decide +kernel
theorem dX2_goesElsewhere_19 : decode cX2_goesElsewhere 19 = .ok (.invokevirtual 9, 3) := by decide +kernel
theorem dX2_goesElsewhere_22 : decode cX2_goesElsewhere 22 = .ok (.iconst 3, 1) := by decide +kernel
theorem dX2_goesElsewhere_23 : decode cX2_goesElsewhere 23 = .ok (.if_icmp .ne 21, 3) := by decide +kernel
theorem dX2_goesElsewhere_26 : decode cX2_goesElsewhere 26 = .ok (.aload_n 0, 1) := by decide +kernel
theorem dX2_goesElsewhere_27 : decode cX2_goesElsewhere 27 = .ok (.invokevirtual 15, 3) := by decide +kernel
theorem dX2_goesElsewhere_30 : decode cX2_goesElsewhere 30 = .ok (.aload_n 1, 1) := by decide +kernel
theorem dX2_goesElsewhere_31 : decode cX2_goesElsewhere 31 = .ok (.aload_n 0, 1) := by decide +kernel
theorem dX2_goesElsewhere_32 : decode cX2_goesElsewhere 32 = .ok (.invokevirtual 18, 3) := by decide +kernel
theorem dX2_goesElsewhere_35 : decode cX2_goesElsewhere 35 = .ok (.invokevirtual 21, 3) := by decide +kernel
theorem dX2_goesElsewhere_38 : decode cX2_goesElsewhere 38 = .ok (.invokestatic 27, 3) := by decide +kernel
theorem dX2_goesElsewhere_41 : decode cX2_goesElsewhere 41 = .ok (.goto 26, 3) := by decide +kernel
theorem dX2_goesElsewhere_44 : decode cX2_goesElsewhere 44 = .ok (.aload_n 0, 1) := by decide +kernel
theorem dX2_goesElsewhere_45 : decode cX2_goesElsewhere 45 = .ok (.invokevirtual 9, 3) := by decide +kernel
theorem dX2_goesElsewhere_48 : decode cX2_goesElsewhere 48 = .ok (.aload_n 1, 1) := by decide +kernel
theorem dX2_goesElsewhere_49 : decode cX2_goesElsewhere 49 = .ok (.aload_n 0, 1) := by decide +kernel
theorem dX2_goesElsewhere_50 : decode cX2_goesElsewhere 50 = .ok (.invokevirtual 15, 3) := by decide +kernel
theorem dX2_goesElsewhere_53 : decode cX2_goesElsewhere 53 = .ok (.invokevirtual 33, 3) := by decide +kernel
theorem dX2_goesElsewhere_56 : decode cX2_goesElsewhere 56 = .ok (.aload_n 1, 1) := by decide +kernel
theorem dX2_goesElsewhere_57 : decode cX2_goesElsewhere 57 = .ok (.aload_n 0, 1) := by decide +kernel
theorem dX2_goesElsewhere_58 : decode cX2_goesElsewhere 58 = .ok (.invokevirtual 18, 3) := by decide +kernel
theorem dX2_goesElsewhere_61 : decode cX2_goesElsewhere 61 = .ok (.invokevirtual 33, 3) := by decide +kernel
theorem dX2_goesElsewhere_64 : decode cX2_goesElsewhere 64 = .ok (.invokestatic 36, 3) := by decide +kernel
theorem dX2_goesElsewhere_67 : decode cX2_goesElsewhere 67 = .ok (.ireturn, 1) := by decide +kernel
set_option maxRecDepth 20000 in
theorem ggX2_target_X1_op : GoodIn wsX2_target wsX1_op := goodIn_r _ [6, 7, 28, 29, 30, 31, 32, 33, 34, 35, 36] (by decide +kernel) (by decide +kernel)
set_option maxRecDepth 20000 in
theorem gX2_target_X1_op : GoodIn wsX2_target (wsV RX2 9 RX1 yX1_op wsX1_op) := goodIn_app (goodIn_of _ (by decide +kernel)) ggX2_target_X1_op
set_option maxRecDepth 20000 in
theorem ggX2_target_X1_constant : GoodIn wsX2_target wsX1_constant := goodIn_r _ [11, 12, 28, 29, 30, 31, 32, 33, 34, 35, 36] (by decide +kernel) (by decide +kernel)
set_option maxRecDepth 20000 in
theorem gX2_target_X1_constant : GoodIn wsX2_target (wsV RX2 40 RX1 yX1_constant wsX1_constant) := goodIn_app (goodIn_of _ (by decide +kernel)) ggX2_target_X1_constant
set_option maxRecDepth 20000 in
theorem ggX2_target_X1_i : GoodIn wsX2_target wsX1_i := goodIn_r _ [16, 17, 28, 29, 30, 31, 32, 33, 34, 35, 36] (by decide +kernel) (by decide +kernel)
set_option maxRecDepth 20000 in
theorem gX2_target_X1_i : GoodIn wsX2_target (wsV RX2 15 RX1 yX1_i wsX1_i) := goodIn_app (goodIn_of _ (by decide +kernel)) ggX2_target_X1_i
set_option maxRecDepth 20000 in
theorem ggX2_target_X6_b : GoodIn wsX2_target wsX6_b := goodIn_r _ [22, 23, 37] (by decide +kernel) (by decide +kernel)
set_option maxRecDepth 20000 in
theorem gX2_target_X6_b : GoodIn wsX2_target (wsV RX2 33 RX6 yX6_b wsX6_b) := goodIn_app (goodIn_of _ (by decide +kernel)) ggX2_target_X6_b
set_option maxRecDepth 20000 in
theorem ggX2_target_X4_sum : GoodIn wsX2_target wsX4_sum := goodIn_r _ [27] (by decide +kernel) (by decide +kernel)
set_option maxRecDepth 20000 in
theorem gX2_target_X4_sum : GoodIn wsX2_target (va_wsS RX2 45 yX4_sum wsX4_sum) := goodIn_app (goodIn_of _ (by decide +kernel)) ggX2_target_X4_sum
theorem dX2_target_0 : decode cX2_target 0 = .ok (.aload_n 0, 1) := by decide +kernel
theorem dX2_target_1 : decode cX2_target 1 = .ok (.invokevirtual 9, 3) := by decide +kernel
theorem dX2_target_4 : decode cX2_target 4 = .ok (.lookupswitch 56 #[(1, 28), (2, 35)], 28) := by decide +kernel
theorem dX2_target_32 : decode cX2_target 32 = .ok (.aload_n 0, 1) := by decide +kernel
theorem dX2_target_33 : decode cX2_target 33 = .ok (.invokevirtual 40, 3) := by decide +kernel
theorem dX2_target_36 : decode cX2_target 36 = .ok (.iconst 1, 1) := by decide +kernel
theorem dX2_target_37 : decode cX2_target 37 = .ok (.iadd, 1) := by decide +kernel
theorem dX2_target_38 : decode cX2_target 38 = .ok (.ireturn, 1) := by decide +kernel
theorem dX2_target_39 : decode cX2_target 39 = .ok (.aload_n 1, 1) := by decide +kernel
theorem dX2_target_40 : decode cX2_target 40 = .ok (.aload_n 0, 1) := by decide +kernel
theorem dX2_target_41 : decode cX2_target 41 = .ok (.invokevirtual 15, 3) := by decide +kernel
theorem dX2_target_44 : decode cX2_target 44 = .ok (.invokevirtual 33, 3) := by decide +kernel
theorem dX2_target_47 : decode cX2_target 47 = .ok (.aload_n 0, 1) := by decide +kernel
theorem dX2_target_48 : decode cX2_target 48 = .ok (.invokevirtual 40, 3) := by decide +kernel
theorem dX2_target_51 : decode cX2_target 51 = .ok (.i2l, 1) := by decide +kernel
theorem dX2_target_52 : decode cX2_target 52 = .ok (.ldc2_w 43, 3) := by decide +kernel
theorem dX2_target_55 : decode cX2_target 55 = .ok (.invokestatic 45, 3) := by decide +kernel
theorem dX2_target_58 : decode cX2_target 58 = .ok (.l2i, 1) := by decide +kernel
theorem dX2_target_59 : decode cX2_target 59 = .ok (.ireturn, 1) := by decide +kernel
theorem dX2_target_60 : decode cX2_target 60 = .ok (.aload_n 0, 1) := by decide +kernel
theorem dX2_target_61 : decode cX2_target 61 = .ok (.invokevirtual 40, 3) := by decide +kernel
theorem dX2_target_64 : decode cX2_target 64 = .ok (.ireturn, 1) := by decide +kernel
theorem dX2_wayBack_0 : decode cX2_wayBack 0 = .ok (.ldc2_w 51, 3) := by decide +kernel
theorem dX2_wayBack_3 : decode cX2_wayBack 3 = .ok (.iload_n 0, 1) := by decide +kernel
theorem dX2_wayBack_4 : decode cX2_wayBack 4 = .ok (.iconst 1, 1) := by decide +kernel
theorem dX2_wayBack_5 : decode cX2_wayBack 5 = .ok (.iadd, 1) := by decide +kernel
theorem dX2_wayBack_6 : decode cX2_wayBack 6 = .ok (.i2l, 1) := by decide +kernel
theorem dX2_wayBack_7 : decode cX2_wayBack 7 = .ok (.bipush 30, 2) := by decide +kernel
theorem dX2_wayBack_9 : decode cX2_wayBack 9 = .ok (.lshl, 1) := by decide +kernel
theorem dX2_wayBack_10 : decode cX2_wayBack 10 = .ok (.lor, 1) := by decide +kernel
theorem dX2_wayBack_11 : decode cX2_wayBack 11 = .ok (.lreturn, 1) := by decide +kernel
set_option maxRecDepth 20000 in
theorem ggX2_wordHolds_X4_isZero : GoodIn wsX2_wordHolds wsX4_isZero := goodIn_r _ [4, 5] (by decide +kernel) (by decide +kernel)
set_option maxRecDepth 20000 in
theorem gX2_wordHolds_X4_isZero : GoodIn wsX2_wordHolds (va_wsS RX2 53 yX4_isZero wsX4_isZero) := goodIn_app (goodIn_of _ (by decide +kernel)) ggX2_wordHolds_X4_isZero
set_option maxRecDepth 20000 in
theorem ggX2_wordHolds_X4_isNegative : GoodIn wsX2_wordHolds wsX4_isNegative := goodIn_r _ [8] (by decide +kernel) (by decide +kernel)
set_option maxRecDepth 20000 in
theorem gX2_wordHolds_X4_isNegative : GoodIn wsX2_wordHolds (va_wsS RX2 57 yX4_isNegative wsX4_isNegative) := goodIn_app (goodIn_of _ (by decide +kernel)) ggX2_wordHolds_X4_isNegative
theorem dX2_wordHolds_0 : decode cX2_wordHolds 0 = .ok (.iload_n 0, 1) := by decide +kernel
theorem dX2_wordHolds_1 : decode cX2_wordHolds 1 = .ok (.tableswitch 58 0 2 #[27, 32, 45], 27) := by decide +kernel
theorem dX2_wordHolds_28 : decode cX2_wordHolds 28 = .ok (.lload_n 1, 1) := by decide +kernel
theorem dX2_wordHolds_29 : decode cX2_wordHolds 29 = .ok (.invokestatic 53, 3) := by decide +kernel
theorem dX2_wordHolds_32 : decode cX2_wordHolds 32 = .ok (.ireturn, 1) := by decide +kernel
theorem dX2_wordHolds_33 : decode cX2_wordHolds 33 = .ok (.lload_n 1, 1) := by decide +kernel
theorem dX2_wordHolds_34 : decode cX2_wordHolds 34 = .ok (.invokestatic 53, 3) := by decide +kernel
theorem dX2_wordHolds_37 : decode cX2_wordHolds 37 = .ok (.ifCond .ne 7, 3) := by decide +kernel
theorem dX2_wordHolds_40 : decode cX2_wordHolds 40 = .ok (.iconst 1, 1) := by decide +kernel
theorem dX2_wordHolds_41 : decode cX2_wordHolds 41 = .ok (.goto 4, 3) := by decide +kernel
theorem dX2_wordHolds_44 : decode cX2_wordHolds 44 = .ok (.iconst 0, 1) := by decide +kernel
theorem dX2_wordHolds_45 : decode cX2_wordHolds 45 = .ok (.ireturn, 1) := by decide +kernel
theorem dX2_wordHolds_46 : decode cX2_wordHolds 46 = .ok (.lload_n 1, 1) := by decide +kernel
theorem dX2_wordHolds_47 : decode cX2_wordHolds 47 = .ok (.invokestatic 57, 3) := by decide +kernel
theorem dX2_wordHolds_50 : decode cX2_wordHolds 50 = .ok (.ifCond .ne 7, 3) := by decide +kernel
theorem dX2_wordHolds_53 : decode cX2_wordHolds 53 = .ok (.iconst 1, 1) := by decide +kernel
theorem dX2_wordHolds_54 : decode cX2_wordHolds 54 = .ok (.goto 4, 3) := by decide +kernel
theorem dX2_wordHolds_57 : decode cX2_wordHolds 57 = .ok (.iconst 0, 1) := by decide +kernel
theorem dX2_wordHolds_58 : decode cX2_wordHolds 58 = .ok (.ireturn, 1) := by decide +kernel
theorem dX2_wordHolds_59 : decode cX2_wordHolds 59 = .ok (.lload_n 1, 1) := by decide +kernel
theorem dX2_wordHolds_60 : decode cX2_wordHolds 60 = .ok (.invokestatic 57, 3) := by decide +kernel
theorem dX2_wordHolds_63 : decode cX2_wordHolds 63 = .ok (.ireturn, 1) := by decide +kernel
set_option maxRecDepth 20000 in
theorem ggX2_shortsHold_X4_plain : GoodIn wsX2_shortsHold wsX4_plain := goodIn_r _ [4, 5, 6, 7, 3, 8, 9] (by decide +kernel) (by decide +kernel)
set_option maxRecDepth 20000 in
theorem gX2_shortsHold_X4_plain : GoodIn wsX2_shortsHold (va_wsS RX2 60 yX4_plain wsX4_plain) := goodIn_app (goodIn_of _ (by decide +kernel)) ggX2_shortsHold_X4_plain
set_option maxRecDepth 20000 in
theorem ggX2_shortsHold_J13_compare_74951 : GoodIn wsX2_shortsHold wsJ13_compare_74951 := goodIn_r _ [13] (by decide +kernel) (by decide +kernel)
set_option maxRecDepth 20000 in
theorem gX2_shortsHold_J13_compare_74951 : GoodIn wsX2_shortsHold (va_wsS RX2 64 yJ13_compare_74951 wsJ13_compare_74951) := goodIn_app (goodIn_of _ (by decide +kernel)) ggX2_shortsHold_J13_compare_74951
theorem dX2_shortsHold_0 : decode cX2_shortsHold 0 = .ok (.lload_n 1, 1) := by decide +kernel
theorem dX2_shortsHold_1 : decode cX2_shortsHold 1 = .ok (.invokestatic 60, 3) := by decide +kernel
theorem dX2_shortsHold_4 : decode cX2_shortsHold 4 = .ok (.lload_n 3, 1) := by decide +kernel
theorem dX2_shortsHold_5 : decode cX2_shortsHold 5 = .ok (.invokestatic 60, 3) := by decide +kernel
theorem dX2_shortsHold_8 : decode cX2_shortsHold 8 = .ok (.invokestatic 64, 3) := by decide +kernel
theorem dX2_shortsHold_11 : decode cX2_shortsHold 11 = .ok (.istore 5, 2) := by decide +kernel
theorem dX2_shortsHold_13 : decode cX2_shortsHold 13 = .ok (.iload_n 0, 1) := by decide +kernel
theorem dX2_shortsHold_14 : decode cX2_shortsHold 14 = .ok (.tableswitch 59 4 6 #[26, 37, 48], 26) := by decide +kernel
theorem dX2_shortsHold_40 : decode cX2_shortsHold 40 = .ok (.iload 5, 2) := by decide +kernel
theorem dX2_shortsHold_42 : decode cX2_shortsHold 42 = .ok (.ifCond .ne 7, 3) := by decide +kernel
theorem dX2_shortsHold_45 : decode cX2_shortsHold 45 = .ok (.iconst 1, 1) := by decide +kernel
theorem dX2_shortsHold_46 : decode cX2_shortsHold 46 = .ok (.goto 4, 3) := by decide +kernel
theorem dX2_shortsHold_49 : decode cX2_shortsHold 49 = .ok (.iconst 0, 1) := by decide +kernel
theorem dX2_shortsHold_50 : decode cX2_shortsHold 50 = .ok (.ireturn, 1) := by decide +kernel
theorem dX2_shortsHold_51 : decode cX2_shortsHold 51 = .ok (.iload 5, 2) := by decide +kernel
theorem dX2_shortsHold_53 : decode cX2_shortsHold 53 = .ok (.ifCond .eq 7, 3) := by decide +kernel
theorem dX2_shortsHold_56 : decode cX2_shortsHold 56 = .ok (.iconst 1, 1) := by decide +kernel
theorem dX2_shortsHold_57 : decode cX2_shortsHold 57 = .ok (.goto 4, 3) := by decide +kernel
theorem dX2_shortsHold_60 : decode cX2_shortsHold 60 = .ok (.iconst 0, 1) := by decide +kernel
theorem dX2_shortsHold_61 : decode cX2_shortsHold 61 = .ok (.ireturn, 1) := by decide +kernel
theorem dX2_shortsHold_62 : decode cX2_shortsHold 62 = .ok (.iload 5, 2) := by decide +kernel
theorem dX2_shortsHold_64 : decode cX2_shortsHold 64 = .ok (.ifCond .lt 7, 3) := by decide +kernel
theorem dX2_shortsHold_67 : decode cX2_shortsHold 67 = .ok (.iconst 1, 1) := by decide +kernel
theorem dX2_shortsHold_68 : decode cX2_shortsHold 68 = .ok (.goto 4, 3) := by decide +kernel
theorem dX2_shortsHold_71 : decode cX2_shortsHold 71 = .ok (.iconst 0, 1) := by decide +kernel
theorem dX2_shortsHold_72 : decode cX2_shortsHold 72 = .ok (.ireturn, 1) := by decide +kernel
theorem dX2_shortsHold_73 : decode cX2_shortsHold 73 = .ok (.iload 5, 2) := by decide +kernel
theorem dX2_shortsHold_75 : decode cX2_shortsHold 75 = .ok (.ifCond .ge 7, 3) := by decide +kernel
theorem dX2_shortsHold_78 : decode cX2_shortsHold 78 = .ok (.iconst 1, 1) := by decide +kernel
theorem dX2_shortsHold_79 : decode cX2_shortsHold 79 = .ok (.goto 4, 3) := by decide +kernel
theorem dX2_shortsHold_82 : decode cX2_shortsHold 82 = .ok (.iconst 0, 1) := by decide +kernel
theorem dX2_shortsHold_83 : decode cX2_shortsHold 83 = .ok (.ireturn, 1) := by decide +kernel
theorem dX3_init_0 : decode cX3_init 0 = .ok (.aload_n 0, 1) := by decide +kernel
theorem dX3_init_1 : decode cX3_init 1 = .ok (.invokespecial 3, 3) := by decide +kernel
theorem dX3_init_4 : decode cX3_init 4 = .ok (.aload_n 0, 1) := by decide +kernel
theorem dX3_init_5 : decode cX3_init 5 = .ok (.sipush 512, 3) := by decide +kernel
theorem dX3_init_8 : decode cX3_init 8 = .ok (.newarray .long, 2) := by decide +kernel
theorem dX3_init_10 : decode cX3_init 10 = .ok (.putfield 9, 3) := by decide +kernel
theorem dX3_init_13 : decode cX3_init 13 = .ok (.aload_n 0, 1) := by decide +kernel
theorem dX3_init_14 : decode cX3_init 14 = .ok (.sipush 512, 3) := by decide +kernel
theorem dX3_init_17 : decode cX3_init 17 = .ok (.newarray .long, 2) := by decide +kernel
theorem dX3_init_19 : decode cX3_init 19 = .ok (.putfield 15, 3) := by decide +kernel
theorem dX3_init_22 : decode cX3_init 22 = .ok (.return_, 1) := by decide +kernel
theorem dX3_holds_0 : decode cX3_holds 0 = .ok (.iload_n 0, 1) := by decide +kernel
theorem dX3_holds_1 : decode cX3_holds 1 = .ok (.ifCond .lt 14, 3) := by decide +kernel
theorem dX3_holds_4 : decode cX3_holds 4 = .ok (.iload_n 0, 1) := by decide +kernel
theorem dX3_holds_5 : decode cX3_holds 5 = .ok (.sipush 512, 3) := by decide +kernel
theorem dX3_holds_8 : decode cX3_holds 8 = .ok (.if_icmp .ge 7, 3) := by decide +kernel
theorem dX3_holds_11 : decode cX3_holds 11 = .ok (.iconst 1, 1) := by decide +kernel
theorem dX3_holds_12 : decode cX3_holds 12 = .ok (.goto 4, 3) := by decide +kernel
theorem dX3_holds_15 : decode cX3_holds 15 = .ok (.iconst 0, 1) := by decide +kernel
theorem dX3_holds_16 : decode cX3_holds 16 = .ok (.ireturn, 1) := by decide +kernel
set_option maxRecDepth 20000 in
theorem ggX3_load_X3_holds : GoodIn wsX3_load wsX3_holds := goodIn_r _ [5] (by decide +kernel) (by decide +kernel)
set_option maxRecDepth 20000 in
theorem gX3_load_X3_holds : GoodIn wsX3_load (va_wsS RX3 18 yX3_holds wsX3_holds) := goodIn_app (goodIn_of _ (by decide +kernel)) ggX3_load_X3_holds
theorem dX3_load_0 : decode cX3_load 0 = .ok (.iload_n 1, 1) := by decide +kernel
theorem dX3_load_1 : decode cX3_load 1 = .ok (.invokestatic 18, 3) := by decide +kernel
theorem dX3_load_4 : decode cX3_load 4 = .ok (.ifCond .eq 12, 3) := by decide +kernel
theorem dX3_load_7 : decode cX3_load 7 = .ok (.aload_n 0, 1) := by decide +kernel
theorem dX3_load_8 : decode cX3_load 8 = .ok (.getfield 9, 3) := by decide +kernel
theorem dX3_load_11 : decode cX3_load 11 = .ok (.iload_n 1, 1) := by decide +kernel
theorem dX3_load_12 : decode cX3_load 12 = .ok (.laload, 1) := by decide +kernel
theorem dX3_load_13 : decode cX3_load 13 = .ok (.goto 4, 3) := by decide +kernel
theorem dX3_load_16 : decode cX3_load 16 = .ok (.lconst 0, 1) := by decide +kernel
theorem dX3_load_17 : decode cX3_load 17 = .ok (.lreturn, 1) := by decide +kernel
set_option maxRecDepth 20000 in
theorem ggX3_store_X3_holds : GoodIn wsX3_store wsX3_holds := goodIn_r _ [6] (by decide +kernel) (by decide +kernel)
set_option maxRecDepth 20000 in
theorem gX3_store_X3_holds : GoodIn wsX3_store (va_wsS RX3 18 yX3_holds wsX3_holds) := goodIn_app (goodIn_of _ (by decide +kernel)) ggX3_store_X3_holds
theorem dX3_store_0 : decode cX3_store 0 = .ok (.iload_n 1, 1) := by decide +kernel
theorem dX3_store_1 : decode cX3_store 1 = .ok (.invokestatic 18, 3) := by decide +kernel
theorem dX3_store_4 : decode cX3_store 4 = .ok (.ifCond .eq 14, 3) := by decide +kernel
theorem dX3_store_7 : decode cX3_store 7 = .ok (.aload_n 0, 1) := by decide +kernel
theorem dX3_store_8 : decode cX3_store 8 = .ok (.getfield 9, 3) := by decide +kernel
theorem dX3_store_11 : decode cX3_store 11 = .ok (.iload_n 1, 1) := by decide +kernel
theorem dX3_store_12 : decode cX3_store 12 = .ok (.lload_n 2, 1) := by decide +kernel
theorem dX3_store_13 : decode cX3_store 13 = .ok (.ldc2_w 22, 3) := by decide +kernel
theorem dX3_store_16 : decode cX3_store 16 = .ok (.land, 1) := by decide +kernel
theorem dX3_store_17 : decode cX3_store 17 = .ok (.lastore, 1) := by decide +kernel
theorem dX3_store_18 : decode cX3_store 18 = .ok (.return_, 1) := by decide +kernel
theorem dX3_keepProgram_0 : decode cX3_keepProgram 0 = .ok (.aload_n 0, 1) := by decide +kernel
theorem dX3_keepProgram_1 : decode cX3_keepProgram 1 = .ok (.getfield 9, 3) := by decide +kernel
theorem dX3_keepProgram_4 : decode cX3_keepProgram 4 = .ok (.iconst 0, 1) := by decide +kernel
theorem dX3_keepProgram_5 : decode cX3_keepProgram 5 = .ok (.aload_n 0, 1) := by decide +kernel
theorem dX3_keepProgram_6 : decode cX3_keepProgram 6 = .ok (.getfield 15, 3) := by decide +kernel
theorem dX3_keepProgram_9 : decode cX3_keepProgram 9 = .ok (.iconst 0, 1) := by decide +kernel
theorem dX3_keepProgram_10 : decode cX3_keepProgram 10 = .ok (.sipush 512, 3) := by decide +kernel
theorem dX3_keepProgram_13 : decode cX3_keepProgram 13 = .ok (.invokestatic 24, 3) := by decide +kernel
theorem dX3_keepProgram_16 : decode cX3_keepProgram 16 = .ok (.return_, 1) := by decide +kernel
set_option maxRecDepth 20000 in
theorem ggX3_programWord_X3_holds : GoodIn wsX3_programWord wsX3_holds := goodIn_r _ [5] (by decide +kernel) (by decide +kernel)
set_option maxRecDepth 20000 in
theorem gX3_programWord_X3_holds : GoodIn wsX3_programWord (va_wsS RX3 18 yX3_holds wsX3_holds) := goodIn_app (goodIn_of _ (by decide +kernel)) ggX3_programWord_X3_holds
theorem dX3_programWord_0 : decode cX3_programWord 0 = .ok (.iload_n 1, 1) := by decide +kernel
theorem dX3_programWord_1 : decode cX3_programWord 1 = .ok (.invokestatic 18, 3) := by decide +kernel
theorem dX3_programWord_4 : decode cX3_programWord 4 = .ok (.ifCond .eq 12, 3) := by decide +kernel
theorem dX3_programWord_7 : decode cX3_programWord 7 = .ok (.aload_n 0, 1) := by decide +kernel
theorem dX3_programWord_8 : decode cX3_programWord 8 = .ok (.getfield 15, 3) := by decide +kernel
theorem dX3_programWord_11 : decode cX3_programWord 11 = .ok (.iload_n 1, 1) := by decide +kernel
theorem dX3_programWord_12 : decode cX3_programWord 12 = .ok (.laload, 1) := by decide +kernel
theorem dX3_programWord_13 : decode cX3_programWord 13 = .ok (.goto 4, 3) := by decide +kernel
theorem dX3_programWord_16 : decode cX3_programWord 16 = .ok (.lconst 0, 1) := by decide +kernel
theorem dX3_programWord_17 : decode cX3_programWord 17 = .ok (.lreturn, 1) := by decide +kernel
set_option maxRecDepth 20000 in
theorem ggX3_storeInProgram_X3_store : GoodIn wsX3_storeInProgram wsX3_store := goodIn_r _ [7, 8, 2, 9, 10, 6, 11, 12, 13] (by decide +kernel) (by decide +kernel)
set_option maxRecDepth 20000 in
theorem gX3_storeInProgram_X3_store : GoodIn wsX3_storeInProgram (wsV RX3 30 RX3 yX3_store wsX3_store) := goodIn_app (goodIn_of _ (by decide +kernel)) ggX3_storeInProgram_X3_store
set_option maxRecDepth 20000 in
theorem ggX3_storeInProgram_X3_holds : GoodIn wsX3_storeInProgram wsX3_holds := goodIn_r _ [11] (by decide +kernel) (by decide +kernel)
set_option maxRecDepth 20000 in
theorem gX3_storeInProgram_X3_holds : GoodIn wsX3_storeInProgram (va_wsS RX3 18 yX3_holds wsX3_holds) := goodIn_app (goodIn_of _ (by decide +kernel)) ggX3_storeInProgram_X3_holds
theorem dX3_storeInProgram_0 : decode cX3_storeInProgram 0 = .ok (.aload_n 0, 1) := by decide +kernel
theorem dX3_storeInProgram_1 : decode cX3_storeInProgram 1 = .ok (.iload_n 1, 1) := by decide +kernel
theorem dX3_storeInProgram_2 : decode cX3_storeInProgram 2 = .ok (.lload_n 2, 1) := by decide +kernel
theorem dX3_storeInProgram_3 : decode cX3_storeInProgram 3 = .ok (.invokevirtual 30, 3) := by decide +kernel
theorem dX3_storeInProgram_6 : decode cX3_storeInProgram 6 = .ok (.iload_n 1, 1) := by decide +kernel
theorem dX3_storeInProgram_7 : decode cX3_storeInProgram 7 = .ok (.invokestatic 18, 3) := by decide +kernel
theorem dX3_storeInProgram_10 : decode cX3_storeInProgram 10 = .ok (.ifCond .eq 14, 3) := by decide +kernel
theorem dX3_storeInProgram_13 : decode cX3_storeInProgram 13 = .ok (.aload_n 0, 1) := by decide +kernel
theorem dX3_storeInProgram_14 : decode cX3_storeInProgram 14 = .ok (.getfield 15, 3) := by decide +kernel
theorem dX3_storeInProgram_17 : decode cX3_storeInProgram 17 = .ok (.iload_n 1, 1) := by decide +kernel
theorem dX3_storeInProgram_18 : decode cX3_storeInProgram 18 = .ok (.lload_n 2, 1) := by decide +kernel
theorem dX3_storeInProgram_19 : decode cX3_storeInProgram 19 = .ok (.ldc2_w 22, 3) := by decide +kernel
theorem dX3_storeInProgram_22 : decode cX3_storeInProgram 22 = .ok (.land, 1) := by decide +kernel
theorem dX3_storeInProgram_23 : decode cX3_storeInProgram 23 = .ok (.lastore, 1) := by decide +kernel
theorem dX3_storeInProgram_24 : decode cX3_storeInProgram 24 = .ok (.return_, 1) := by decide +kernel
theorem dX4_sum_0 : decode cX4_sum 0 = .ok (.lload_n 0, 1) := by decide +kernel
theorem dX4_sum_1 : decode cX4_sum 1 = .ok (.lload_n 2, 1) := by decide +kernel
theorem dX4_sum_2 : decode cX4_sum 2 = .ok (.ladd, 1) := by decide +kernel
theorem dX4_sum_3 : decode cX4_sum 3 = .ok (.lstore 6, 2) := by decide +kernel
theorem dX4_sum_5 : decode cX4_sum 5 = .ok (.lload 6, 2) := by decide +kernel
theorem dX4_sum_7 : decode cX4_sum 7 = .ok (.lload 4, 2) := by decide +kernel
theorem dX4_sum_9 : decode cX4_sum 9 = .ok (.lcmp, 1) := by decide +kernel
theorem dX4_sum_10 : decode cX4_sum 10 = .ok (.ifCond .le 12, 3) := by decide +kernel
theorem dX4_sum_13 : decode cX4_sum 13 = .ok (.lload 6, 2) := by decide +kernel
theorem dX4_sum_15 : decode cX4_sum 15 = .ok (.lload 4, 2) := by decide +kernel
theorem dX4_sum_17 : decode cX4_sum 17 = .ok (.land, 1) := by decide +kernel
theorem dX4_sum_18 : decode cX4_sum 18 = .ok (.lconst 1, 1) := by decide +kernel
theorem dX4_sum_19 : decode cX4_sum 19 = .ok (.ladd, 1) := by decide +kernel
theorem dX4_sum_20 : decode cX4_sum 20 = .ok (.lstore 6, 2) := by decide +kernel
theorem dX4_sum_22 : decode cX4_sum 22 = .ok (.lload_n 0, 1) := by decide +kernel
theorem dX4_sum_23 : decode cX4_sum 23 = .ok (.lload 4, 2) := by decide +kernel
theorem dX4_sum_25 : decode cX4_sum 25 = .ok (.lcmp, 1) := by decide +kernel
theorem dX4_sum_26 : decode cX4_sum 26 = .ok (.ifCond .ne 14, 3) := by decide +kernel
theorem dX4_sum_29 : decode cX4_sum 29 = .ok (.lload_n 2, 1) := by decide +kernel
theorem dX4_sum_30 : decode cX4_sum 30 = .ok (.lload 4, 2) := by decide +kernel
theorem dX4_sum_32 : decode cX4_sum 32 = .ok (.lcmp, 1) := by decide +kernel
theorem dX4_sum_33 : decode cX4_sum 33 = .ok (.ifCond .ne 7, 3) := by decide +kernel
theorem dX4_sum_36 : decode cX4_sum 36 = .ok (.iconst 1, 1) := by decide +kernel
theorem dX4_sum_37 : decode cX4_sum 37 = .ok (.goto 4, 3) := by decide +kernel
theorem dX4_sum_40 : decode cX4_sum 40 = .ok (.iconst 0, 1) := by decide +kernel
theorem dX4_sum_41 : decode cX4_sum 41 = .ok (.istore 8, 2) := by decide +kernel
theorem dX4_sum_43 : decode cX4_sum 43 = .ok (.lload 6, 2) := by decide +kernel
theorem dX4_sum_45 : decode cX4_sum 45 = .ok (.lload 4, 2) := by decide +kernel
theorem dX4_sum_47 : decode cX4_sum 47 = .ok (.lcmp, 1) := by decide +kernel
theorem dX4_sum_48 : decode cX4_sum 48 = .ok (.ifCond .ne 12, 3) := by decide +kernel
theorem dX4_sum_51 : decode cX4_sum 51 = .ok (.iload 8, 2) := by decide +kernel
theorem dX4_sum_53 : decode cX4_sum 53 = .ok (.ifCond .ne 7, 3) := by decide +kernel
theorem dX4_sum_56 : decode cX4_sum 56 = .ok (.lconst 0, 1) := by decide +kernel
theorem dX4_sum_57 : decode cX4_sum 57 = .ok (.goto 5, 3) := by decide +kernel
theorem dX4_sum_60 : decode cX4_sum 60 = .ok (.lload 6, 2) := by decide +kernel
theorem dX4_sum_62 : decode cX4_sum 62 = .ok (.lreturn, 1) := by decide +kernel
set_option maxRecDepth 20000 in
theorem ggX4_difference_X4_sum : GoodIn wsX4_difference wsX4_sum := goodIn_r _ [4] (by decide +kernel) (by decide +kernel)
set_option maxRecDepth 20000 in
theorem gX4_difference_X4_sum : GoodIn wsX4_difference (va_wsS RX4 9 yX4_sum wsX4_sum) := goodIn_app (goodIn_of _ (by decide +kernel)) ggX4_difference_X4_sum
theorem dX4_difference_0 : decode cX4_difference 0 = .ok (.lload_n 0, 1) := by decide +kernel
theorem dX4_difference_1 : decode cX4_difference 1 = .ok (.lload_n 2, 1) := by decide +kernel
theorem dX4_difference_2 : decode cX4_difference 2 = .ok (.lload 4, 2) := by decide +kernel
theorem dX4_difference_4 : decode cX4_difference 4 = .ok (.lxor, 1) := by decide +kernel
theorem dX4_difference_5 : decode cX4_difference 5 = .ok (.lload 4, 2) := by decide +kernel
theorem dX4_difference_7 : decode cX4_difference 7 = .ok (.invokestatic 9, 3) := by decide +kernel
theorem dX4_difference_10 : decode cX4_difference 10 = .ok (.lreturn, 1) := by decide +kernel
theorem dX4_isNegative_0 : decode cX4_isNegative 0 = .ok (.lload_n 0, 1) := by decide +kernel
theorem dX4_isNegative_1 : decode cX4_isNegative 1 = .ok (.bipush 59, 2) := by decide +kernel
theorem dX4_isNegative_3 : decode cX4_isNegative 3 = .ok (.lshr, 1) := by decide +kernel
theorem dX4_isNegative_4 : decode cX4_isNegative 4 = .ok (.lconst 1, 1) := by decide +kernel
theorem dX4_isNegative_5 : decode cX4_isNegative 5 = .ok (.land, 1) := by decide +kernel
theorem dX4_isNegative_6 : decode cX4_isNegative 6 = .ok (.lconst 0, 1) := by decide +kernel
theorem dX4_isNegative_7 : decode cX4_isNegative 7 = .ok (.lcmp, 1) := by decide +kernel
theorem dX4_isNegative_8 : decode cX4_isNegative 8 = .ok (.ifCond .eq 7, 3) := by decide +kernel
theorem dX4_isNegative_11 : decode cX4_isNegative 11 = .ok (.iconst 1, 1) := by decide +kernel
theorem dX4_isNegative_12 : decode cX4_isNegative 12 = .ok (.goto 4, 3) := by decide +kernel
theorem dX4_isNegative_15 : decode cX4_isNegative 15 = .ok (.iconst 0, 1) := by decide +kernel
theorem dX4_isNegative_16 : decode cX4_isNegative 16 = .ok (.ireturn, 1) := by decide +kernel
theorem dX4_isShortNegative_0 : decode cX4_isShortNegative 0 = .ok (.lload_n 0, 1) := by decide +kernel
theorem dX4_isShortNegative_1 : decode cX4_isShortNegative 1 = .ok (.ldc2_w 15, 3) := by decide +kernel
theorem dX4_isShortNegative_4 : decode cX4_isShortNegative 4 = .ok (.lcmp, 1) := by decide +kernel
theorem dX4_isShortNegative_5 : decode cX4_isShortNegative 5 = .ok (.ifCond .le 7, 3) := by decide +kernel
theorem dX4_isShortNegative_8 : decode cX4_isShortNegative 8 = .ok (.iconst 1, 1) := by decide +kernel
theorem dX4_isShortNegative_9 : decode cX4_isShortNegative 9 = .ok (.goto 4, 3) := by decide +kernel
theorem dX4_isShortNegative_12 : decode cX4_isShortNegative 12 = .ok (.iconst 0, 1) := by decide +kernel
theorem dX4_isShortNegative_13 : decode cX4_isShortNegative 13 = .ok (.ireturn, 1) := by decide +kernel
theorem dX4_isZero_0 : decode cX4_isZero 0 = .ok (.lload_n 0, 1) := by decide +kernel
theorem dX4_isZero_1 : decode cX4_isZero 1 = .ok (.lconst 0, 1) := by decide +kernel
theorem dX4_isZero_2 : decode cX4_isZero 2 = .ok (.lcmp, 1) := by decide +kernel
theorem dX4_isZero_3 : decode cX4_isZero 3 = .ok (.ifCond .eq 11, 3) := by decide +kernel
theorem dX4_isZero_6 : decode cX4_isZero 6 = .ok (.lload_n 0, 1) := by decide +kernel
theorem dX4_isZero_7 : decode cX4_isZero 7 = .ok (.ldc2_w 17, 3) := by decide +kernel
theorem dX4_isZero_10 : decode cX4_isZero 10 = .ok (.lcmp, 1) := by decide +kernel
theorem dX4_isZero_11 : decode cX4_isZero 11 = .ok (.ifCond .ne 7, 3) := by decide +kernel
theorem dX4_isZero_14 : decode cX4_isZero 14 = .ok (.iconst 1, 1) := by decide +kernel
theorem dX4_isZero_15 : decode cX4_isZero 15 = .ok (.goto 4, 3) := by decide +kernel
theorem dX4_isZero_18 : decode cX4_isZero 18 = .ok (.iconst 0, 1) := by decide +kernel
theorem dX4_isZero_19 : decode cX4_isZero 19 = .ok (.ireturn, 1) := by decide +kernel
set_option maxRecDepth 20000 in
theorem ggX4_extended_X4_isShortNegative : GoodIn wsX4_extended wsX4_isShortNegative := goodIn_r _ [5, 6] (by decide +kernel) (by decide +kernel)
set_option maxRecDepth 20000 in
theorem gX4_extended_X4_isShortNegative : GoodIn wsX4_extended (va_wsS RX4 19 yX4_isShortNegative wsX4_isShortNegative) := goodIn_app (goodIn_of _ (by decide +kernel)) ggX4_extended_X4_isShortNegative
theorem dX4_extended_0 : decode cX4_extended 0 = .ok (.lload_n 0, 1) := by decide +kernel
theorem dX4_extended_1 : decode cX4_extended 1 = .ok (.invokestatic 19, 3) := by decide +kernel
theorem dX4_extended_4 : decode cX4_extended 4 = .ok (.ifCond .eq 11, 3) := by decide +kernel
theorem dX4_extended_7 : decode cX4_extended 7 = .ok (.lload_n 0, 1) := by decide +kernel
theorem dX4_extended_8 : decode cX4_extended 8 = .ok (.ldc2_w 23, 3) := by decide +kernel
theorem dX4_extended_11 : decode cX4_extended 11 = .ok (.lor, 1) := by decide +kernel
theorem dX4_extended_12 : decode cX4_extended 12 = .ok (.goto 4, 3) := by decide +kernel
theorem dX4_extended_15 : decode cX4_extended 15 = .ok (.lload_n 0, 1) := by decide +kernel
theorem dX4_extended_16 : decode cX4_extended 16 = .ok (.lreturn, 1) := by decide +kernel
set_option maxRecDepth 20000 in
theorem ggX4_plain_X4_isShortNegative : GoodIn wsX4_plain wsX4_isShortNegative := goodIn_r _ [5, 6] (by decide +kernel) (by decide +kernel)
set_option maxRecDepth 20000 in
theorem gX4_plain_X4_isShortNegative : GoodIn wsX4_plain (va_wsS RX4 19 yX4_isShortNegative wsX4_isShortNegative) := goodIn_app (goodIn_of _ (by decide +kernel)) ggX4_plain_X4_isShortNegative
theorem dX4_plain_0 : decode cX4_plain 0 = .ok (.lload_n 0, 1) := by decide +kernel
theorem dX4_plain_1 : decode cX4_plain 1 = .ok (.invokestatic 19, 3) := by decide +kernel
theorem dX4_plain_4 : decode cX4_plain 4 = .ok (.ifCond .eq 12, 3) := by decide +kernel
theorem dX4_plain_7 : decode cX4_plain 7 = .ok (.lload_n 0, 1) := by decide +kernel
theorem dX4_plain_8 : decode cX4_plain 8 = .ok (.ldc2_w 25, 3) := by decide +kernel
theorem dX4_plain_11 : decode cX4_plain 11 = .ok (.lxor, 1) := by decide +kernel
theorem dX4_plain_12 : decode cX4_plain 12 = .ok (.lneg, 1) := by decide +kernel
theorem dX4_plain_13 : decode cX4_plain 13 = .ok (.goto 4, 3) := by decide +kernel
theorem dX4_plain_16 : decode cX4_plain 16 = .ok (.lload_n 0, 1) := by decide +kernel
theorem dX4_plain_17 : decode cX4_plain 17 = .ok (.lreturn, 1) := by decide +kernel
theorem dX4_turnedRoundLeft_0 : decode cX4_turnedRoundLeft 0 = .ok (.iload_n 2, 1) := by decide +kernel
theorem dX4_turnedRoundLeft_1 : decode cX4_turnedRoundLeft 1 = .ok (.bipush 60, 2) := by decide +kernel
theorem dX4_turnedRoundLeft_3 : decode cX4_turnedRoundLeft 3 = .ok (.irem, 1) := by decide +kernel
theorem dX4_turnedRoundLeft_4 : decode cX4_turnedRoundLeft 4 = .ok (.istore_n 3, 1) := by decide +kernel
theorem dX4_turnedRoundLeft_5 : decode cX4_turnedRoundLeft 5 = .ok (.lload_n 0, 1) := by decide +kernel
theorem dX4_turnedRoundLeft_6 : decode cX4_turnedRoundLeft 6 = .ok (.iload_n 3, 1) := by decide +kernel
theorem dX4_turnedRoundLeft_7 : decode cX4_turnedRoundLeft 7 = .ok (.lshl, 1) := by decide +kernel
theorem dX4_turnedRoundLeft_8 : decode cX4_turnedRoundLeft 8 = .ok (.lload_n 0, 1) := by decide +kernel
theorem dX4_turnedRoundLeft_9 : decode cX4_turnedRoundLeft 9 = .ok (.bipush 60, 2) := by decide +kernel
theorem dX4_turnedRoundLeft_11 : decode cX4_turnedRoundLeft 11 = .ok (.iload_n 3, 1) := by decide +kernel
theorem dX4_turnedRoundLeft_12 : decode cX4_turnedRoundLeft 12 = .ok (.isub, 1) := by decide +kernel
theorem dX4_turnedRoundLeft_13 : decode cX4_turnedRoundLeft 13 = .ok (.lushr, 1) := by decide +kernel
theorem dX4_turnedRoundLeft_14 : decode cX4_turnedRoundLeft 14 = .ok (.lor, 1) := by decide +kernel
theorem dX4_turnedRoundLeft_15 : decode cX4_turnedRoundLeft 15 = .ok (.ldc2_w 17, 3) := by decide +kernel
theorem dX4_turnedRoundLeft_18 : decode cX4_turnedRoundLeft 18 = .ok (.land, 1) := by decide +kernel
theorem dX4_turnedRoundLeft_19 : decode cX4_turnedRoundLeft 19 = .ok (.lreturn, 1) := by decide +kernel
set_option maxRecDepth 20000 in
theorem ggX4_shiftedRight_X4_isNegative : GoodIn wsX4_shiftedRight wsX4_isNegative := goodIn_r _ [10] (by decide +kernel) (by decide +kernel)
set_option maxRecDepth 20000 in
theorem gX4_shiftedRight_X4_isNegative : GoodIn wsX4_shiftedRight (va_wsS RX4 27 yX4_isNegative wsX4_isNegative) := goodIn_app (goodIn_of _ (by decide +kernel)) ggX4_shiftedRight_X4_isNegative
theorem dX4_shiftedRight_0 : decode cX4_shiftedRight 0 = .ok (.lload_n 0, 1) := by decide +kernel
theorem dX4_shiftedRight_1 : decode cX4_shiftedRight 1 = .ok (.invokestatic 27, 3) := by decide +kernel
theorem dX4_shiftedRight_4 : decode cX4_shiftedRight 4 = .ok (.ifCond .eq 11, 3) := by decide +kernel
theorem dX4_shiftedRight_7 : decode cX4_shiftedRight 7 = .ok (.lload_n 0, 1) := by decide +kernel
theorem dX4_shiftedRight_8 : decode cX4_shiftedRight 8 = .ok (.ldc2_w 30, 3) := by decide +kernel
theorem dX4_shiftedRight_11 : decode cX4_shiftedRight 11 = .ok (.lor, 1) := by decide +kernel
theorem dX4_shiftedRight_12 : decode cX4_shiftedRight 12 = .ok (.goto 4, 3) := by decide +kernel
theorem dX4_shiftedRight_15 : decode cX4_shiftedRight 15 = .ok (.lload_n 0, 1) := by decide +kernel
theorem dX4_shiftedRight_16 : decode cX4_shiftedRight 16 = .ok (.lstore_n 3, 1) := by decide +kernel
theorem dX4_shiftedRight_17 : decode cX4_shiftedRight 17 = .ok (.lload_n 3, 1) := by decide +kernel
theorem dX4_shiftedRight_18 : decode cX4_shiftedRight 18 = .ok (.iload_n 2, 1) := by decide +kernel
theorem dX4_shiftedRight_19 : decode cX4_shiftedRight 19 = .ok (.bipush 60, 2) := by decide +kernel
theorem dX4_shiftedRight_21 : decode cX4_shiftedRight 21 = .ok (.invokestatic 32, 3) := by decide +kernel
theorem dX4_shiftedRight_24 : decode cX4_shiftedRight 24 = .ok (.lshr, 1) := by decide +kernel
theorem dX4_shiftedRight_25 : decode cX4_shiftedRight 25 = .ok (.ldc2_w 17, 3) := by decide +kernel
theorem dX4_shiftedRight_28 : decode cX4_shiftedRight 28 = .ok (.land, 1) := by decide +kernel
theorem dX4_shiftedRight_29 : decode cX4_shiftedRight 29 = .ok (.lreturn, 1) := by decide +kernel
theorem dX4_highestBits_0 : decode cX4_highestBits 0 = .ok (.ldc2_w 17, 3) := by decide +kernel
theorem dX4_highestBits_3 : decode cX4_highestBits 3 = .ok (.ldc2_w 17, 3) := by decide +kernel
theorem dX4_highestBits_6 : decode cX4_highestBits 6 = .ok (.iload_n 0, 1) := by decide +kernel
theorem dX4_highestBits_7 : decode cX4_highestBits 7 = .ok (.bipush 60, 2) := by decide +kernel
theorem dX4_highestBits_9 : decode cX4_highestBits 9 = .ok (.invokestatic 32, 3) := by decide +kernel
theorem dX4_highestBits_12 : decode cX4_highestBits 12 = .ok (.lshr, 1) := by decide +kernel
theorem dX4_highestBits_13 : decode cX4_highestBits 13 = .ok (.lxor, 1) := by decide +kernel
theorem dX4_highestBits_14 : decode cX4_highestBits 14 = .ok (.lreturn, 1) := by decide +kernel
theorem dX5_init_0 : decode cX5_init 0 = .ok (.aload_n 0, 1) := by decide +kernel
theorem dX5_init_1 : decode cX5_init 1 = .ok (.invokespecial 3, 3) := by decide +kernel
theorem dX5_init_4 : decode cX5_init 4 = .ok (.aload_n 0, 1) := by decide +kernel
theorem dX5_init_5 : decode cX5_init 5 = .ok (.iconst 3, 1) := by decide +kernel
theorem dX5_init_6 : decode cX5_init 6 = .ok (.newarray .int, 2) := by decide +kernel
theorem dX5_init_8 : decode cX5_init 8 = .ok (.putfield 11, 3) := by decide +kernel
theorem dX5_init_11 : decode cX5_init 11 = .ok (.return_, 1) := by decide +kernel
theorem dX5_clear_0 : decode cX5_clear 0 = .ok (.aload_n 0, 1) := by decide +kernel
theorem dX5_clear_1 : decode cX5_clear 1 = .ok (.iconst 0, 1) := by decide +kernel
theorem dX5_clear_2 : decode cX5_clear 2 = .ok (.putfield 15, 3) := by decide +kernel
theorem dX5_clear_5 : decode cX5_clear 5 = .ok (.return_, 1) := by decide +kernel
theorem dX5_add_0 : decode cX5_add 0 = .ok (.iload_n 1, 1) := by decide +kernel
theorem dX5_add_1 : decode cX5_add 1 = .ok (.bipush 16, 2) := by decide +kernel
theorem dX5_add_3 : decode cX5_add 3 = .ok (.if_icmp .eq 31, 3) := by decide +kernel
theorem dX5_add_6 : decode cX5_add 6 = .ok (.aload_n 0, 1) := by decide +kernel
theorem dX5_add_7 : decode cX5_add 7 = .ok (.getfield 15, 3) := by decide +kernel
theorem dX5_add_10 : decode cX5_add 10 = .ok (.iconst 3, 1) := by decide +kernel
theorem dX5_add_11 : decode cX5_add 11 = .ok (.if_icmp .ge 23, 3) := by decide +kernel
theorem dX5_add_14 : decode cX5_add 14 = .ok (.aload_n 0, 1) := by decide +kernel
theorem dX5_add_15 : decode cX5_add 15 = .ok (.getfield 11, 3) := by decide +kernel
theorem dX5_add_18 : decode cX5_add 18 = .ok (.aload_n 0, 1) := by decide +kernel
theorem dX5_add_19 : decode cX5_add 19 = .ok (.getfield 15, 3) := by decide +kernel
theorem dX5_add_22 : decode cX5_add 22 = .ok (.iload_n 1, 1) := by decide +kernel
theorem dX5_add_23 : decode cX5_add 23 = .ok (.iastore, 1) := by decide +kernel
theorem dX5_add_24 : decode cX5_add 24 = .ok (.aload_n 0, 1) := by decide +kernel
theorem dX5_add_25 : decode cX5_add 25 = .ok (.dup, 1) := by decide +kernel
theorem dX5_add_26 : decode cX5_add 26 = .ok (.getfield 15, 3) := by decide +kernel
theorem dX5_add_29 : decode cX5_add 29 = .ok (.iconst 1, 1) := by decide +kernel
theorem dX5_add_30 : decode cX5_add 30 = .ok (.iadd, 1) := by decide +kernel
theorem dX5_add_31 : decode cX5_add 31 = .ok (.putfield 15, 3) := by decide +kernel
theorem dX5_add_34 : decode cX5_add 34 = .ok (.return_, 1) := by decide +kernel
set_option maxRecDepth 20000 in
theorem ggX5_addX_X5_add : GoodIn wsX5_addX wsX5_add := goodIn_r _ [5, 6, 7, 8, 9] (by decide +kernel) (by decide +kernel)
set_option maxRecDepth 20000 in
theorem gX5_addX_X5_add : GoodIn wsX5_addX (wsV RX5 19 RX5 yX5_add wsX5_add) := goodIn_app (goodIn_of _ (by decide +kernel)) ggX5_addX_X5_add
theorem dX5_addX_0 : decode cX5_addX 0 = .ok (.aload_n 0, 1) := by decide +kernel
theorem dX5_addX_1 : decode cX5_addX 1 = .ok (.iload_n 1, 1) := by decide +kernel
theorem dX5_addX_2 : decode cX5_addX 2 = .ok (.invokevirtual 19, 3) := by decide +kernel
theorem dX5_addX_5 : decode cX5_addX 5 = .ok (.return_, 1) := by decide +kernel
set_option maxRecDepth 20000 in
theorem ggX5_addA_X5_add : GoodIn wsX5_addA wsX5_add := goodIn_r _ [5, 6, 7, 8, 9] (by decide +kernel) (by decide +kernel)
set_option maxRecDepth 20000 in
theorem gX5_addA_X5_add : GoodIn wsX5_addA (wsV RX5 19 RX5 yX5_add wsX5_add) := goodIn_app (goodIn_of _ (by decide +kernel)) ggX5_addA_X5_add
theorem dX5_addA_0 : decode cX5_addA 0 = .ok (.aload_n 0, 1) := by decide +kernel
theorem dX5_addA_1 : decode cX5_addA 1 = .ok (.bipush 8, 2) := by decide +kernel
theorem dX5_addA_3 : decode cX5_addA 3 = .ok (.iload_n 1, 1) := by decide +kernel
theorem dX5_addA_4 : decode cX5_addA 4 = .ok (.iadd, 1) := by decide +kernel
theorem dX5_addA_5 : decode cX5_addA 5 = .ok (.invokevirtual 19, 3) := by decide +kernel
theorem dX5_addA_8 : decode cX5_addA 8 = .ok (.return_, 1) := by decide +kernel
set_option maxRecDepth 20000 in
theorem ggX5_addB_X5_add : GoodIn wsX5_addB wsX5_add := goodIn_r _ [5, 6, 7, 8, 9] (by decide +kernel) (by decide +kernel)
set_option maxRecDepth 20000 in
theorem gX5_addB_X5_add : GoodIn wsX5_addB (wsV RX5 19 RX5 yX5_add wsX5_add) := goodIn_app (goodIn_of _ (by decide +kernel)) ggX5_addB_X5_add
theorem dX5_addB_0 : decode cX5_addB 0 = .ok (.aload_n 0, 1) := by decide +kernel
theorem dX5_addB_1 : decode cX5_addB 1 = .ok (.bipush 16, 2) := by decide +kernel
theorem dX5_addB_3 : decode cX5_addB 3 = .ok (.iload_n 1, 1) := by decide +kernel
theorem dX5_addB_4 : decode cX5_addB 4 = .ok (.iadd, 1) := by decide +kernel
theorem dX5_addB_5 : decode cX5_addB 5 = .ok (.invokevirtual 19, 3) := by decide +kernel
theorem dX5_addB_8 : decode cX5_addB 8 = .ok (.return_, 1) := by decide +kernel
theorem dX5_latestIn_0 : decode cX5_latestIn 0 = .ok (.iconst 0, 1) := by decide +kernel
theorem dX5_latestIn_1 : decode cX5_latestIn 1 = .ok (.istore_n 2, 1) := by decide +kernel
theorem dX5_latestIn_2 : decode cX5_latestIn 2 = .ok (.iconst 0, 1) := by decide +kernel
theorem dX5_latestIn_3 : decode cX5_latestIn 3 = .ok (.istore_n 3, 1) := by decide +kernel
theorem dX5_latestIn_4 : decode cX5_latestIn 4 = .ok (.iload_n 3, 1) := by decide +kernel
theorem dX5_latestIn_5 : decode cX5_latestIn 5 = .ok (.aload_n 0, 1) := by decide +kernel
theorem dX5_latestIn_6 : decode cX5_latestIn 6 = .ok (.getfield 15, 3) := by decide +kernel
theorem dX5_latestIn_9 : decode cX5_latestIn 9 = .ok (.if_icmp .ge 22, 3) := by decide +kernel
theorem dX5_latestIn_12 : decode cX5_latestIn 12 = .ok (.iload_n 2, 1) := by decide +kernel
theorem dX5_latestIn_13 : decode cX5_latestIn 13 = .ok (.aload_n 1, 1) := by decide +kernel
theorem dX5_latestIn_14 : decode cX5_latestIn 14 = .ok (.aload_n 0, 1) := by decide +kernel
theorem dX5_latestIn_15 : decode cX5_latestIn 15 = .ok (.getfield 11, 3) := by decide +kernel
theorem dX5_latestIn_18 : decode cX5_latestIn 18 = .ok (.iload_n 3, 1) := by decide +kernel
theorem dX5_latestIn_19 : decode cX5_latestIn 19 = .ok (.iaload, 1) := by decide +kernel
theorem dX5_latestIn_20 : decode cX5_latestIn 20 = .ok (.iaload, 1) := by decide +kernel
theorem dX5_latestIn_21 : decode cX5_latestIn 21 = .ok (.invokestatic 23, 3) := by decide +kernel
theorem dX5_latestIn_24 : decode cX5_latestIn 24 = .ok (.istore_n 2, 1) := by decide +kernel
theorem dX5_latestIn_25 : decode cX5_latestIn 25 = .ok (.iinc 3 1, 3) := by decide +kernel
theorem dX5_latestIn_28 : decode cX5_latestIn 28 = .ok (.goto (-24), 3) := by decide +kernel
theorem dX5_latestIn_31 : decode cX5_latestIn 31 = .ok (.iload_n 2, 1) := by decide +kernel
theorem dX5_latestIn_32 : decode cX5_latestIn 32 = .ok (.ireturn, 1) := by decide +kernel
theorem dX5_raiseIn_0 : decode cX5_raiseIn 0 = .ok (.iconst 0, 1) := by decide +kernel
theorem dX5_raiseIn_1 : decode cX5_raiseIn 1 = .ok (.istore_n 3, 1) := by decide +kernel
theorem dX5_raiseIn_2 : decode cX5_raiseIn 2 = .ok (.iload_n 3, 1) := by decide +kernel
theorem dX5_raiseIn_3 : decode cX5_raiseIn 3 = .ok (.aload_n 0, 1) := by decide +kernel
theorem dX5_raiseIn_4 : decode cX5_raiseIn 4 = .ok (.getfield 15, 3) := by decide +kernel
theorem dX5_raiseIn_7 : decode cX5_raiseIn 7 = .ok (.if_icmp .ge 29, 3) := by decide +kernel
theorem dX5_raiseIn_10 : decode cX5_raiseIn 10 = .ok (.aload_n 0, 1) := by decide +kernel
theorem dX5_raiseIn_11 : decode cX5_raiseIn 11 = .ok (.getfield 11, 3) := by decide +kernel
theorem dX5_raiseIn_14 : decode cX5_raiseIn 14 = .ok (.iload_n 3, 1) := by decide +kernel
theorem dX5_raiseIn_15 : decode cX5_raiseIn 15 = .ok (.iaload, 1) := by decide +kernel
theorem dX5_raiseIn_16 : decode cX5_raiseIn 16 = .ok (.istore 4, 2) := by decide +kernel
theorem dX5_raiseIn_18 : decode cX5_raiseIn 18 = .ok (.aload_n 1, 1) := by decide +kernel
theorem dX5_raiseIn_19 : decode cX5_raiseIn 19 = .ok (.iload 4, 2) := by decide +kernel
theorem dX5_raiseIn_21 : decode cX5_raiseIn 21 = .ok (.aload_n 1, 1) := by decide +kernel
theorem dX5_raiseIn_22 : decode cX5_raiseIn 22 = .ok (.iload 4, 2) := by decide +kernel
theorem dX5_raiseIn_24 : decode cX5_raiseIn 24 = .ok (.iaload, 1) := by decide +kernel
theorem dX5_raiseIn_25 : decode cX5_raiseIn 25 = .ok (.iload_n 2, 1) := by decide +kernel
theorem dX5_raiseIn_26 : decode cX5_raiseIn 26 = .ok (.invokestatic 23, 3) := by decide +kernel
theorem dX5_raiseIn_29 : decode cX5_raiseIn 29 = .ok (.iastore, 1) := by decide +kernel
theorem dX5_raiseIn_30 : decode cX5_raiseIn 30 = .ok (.iinc 3 1, 3) := by decide +kernel
theorem dX5_raiseIn_33 : decode cX5_raiseIn 33 = .ok (.goto (-31), 3) := by decide +kernel
theorem dX5_raiseIn_36 : decode cX5_raiseIn 36 = .ok (.return_, 1) := by decide +kernel
theorem dX6_init_0 : decode cX6_init 0 = .ok (.aload_n 0, 1) := by decide +kernel
theorem dX6_init_1 : decode cX6_init 1 = .ok (.invokespecial 3, 3) := by decide +kernel
theorem dX6_init_4 : decode cX6_init 4 = .ok (.aload_n 0, 1) := by decide +kernel
theorem dX6_init_5 : decode cX6_init 5 = .ok (.bipush 24, 2) := by decide +kernel
theorem dX6_init_7 : decode cX6_init 7 = .ok (.newarray .long, 2) := by decide +kernel
theorem dX6_init_9 : decode cX6_init 9 = .ok (.putfield 9, 3) := by decide +kernel
theorem dX6_init_12 : decode cX6_init 12 = .ok (.return_, 1) := by decide +kernel
theorem dX6_get_0 : decode cX6_get 0 = .ok (.aload_n 0, 1) := by decide +kernel
theorem dX6_get_1 : decode cX6_get 1 = .ok (.getfield 9, 3) := by decide +kernel
theorem dX6_get_4 : decode cX6_get 4 = .ok (.iload_n 1, 1) := by decide +kernel
theorem dX6_get_5 : decode cX6_get 5 = .ok (.laload, 1) := by decide +kernel
theorem dX6_get_6 : decode cX6_get 6 = .ok (.lreturn, 1) := by decide +kernel
theorem dX6_set_0 : decode cX6_set 0 = .ok (.iload_n 1, 1) := by decide +kernel
theorem dX6_set_1 : decode cX6_set 1 = .ok (.bipush 16, 2) := by decide +kernel
theorem dX6_set_3 : decode cX6_set 3 = .ok (.if_icmp .eq 26, 3) := by decide +kernel
theorem dX6_set_6 : decode cX6_set 6 = .ok (.aload_n 0, 1) := by decide +kernel
theorem dX6_set_7 : decode cX6_set 7 = .ok (.getfield 9, 3) := by decide +kernel
theorem dX6_set_10 : decode cX6_set 10 = .ok (.iload_n 1, 1) := by decide +kernel
theorem dX6_set_11 : decode cX6_set 11 = .ok (.lload_n 2, 1) := by decide +kernel
theorem dX6_set_12 : decode cX6_set 12 = .ok (.iload_n 1, 1) := by decide +kernel
theorem dX6_set_13 : decode cX6_set 13 = .ok (.bipush 8, 2) := by decide +kernel
theorem dX6_set_15 : decode cX6_set 15 = .ok (.if_icmp .ge 9, 3) := by decide +kernel
theorem dX6_set_18 : decode cX6_set 18 = .ok (.ldc2_w 15, 3) := by decide +kernel
theorem dX6_set_21 : decode cX6_set 21 = .ok (.goto 6, 3) := by decide +kernel
theorem dX6_set_24 : decode cX6_set 24 = .ok (.ldc2_w 17, 3) := by decide +kernel
theorem dX6_set_27 : decode cX6_set 27 = .ok (.land, 1) := by decide +kernel
theorem dX6_set_28 : decode cX6_set 28 = .ok (.lastore, 1) := by decide +kernel
theorem dX6_set_29 : decode cX6_set 29 = .ok (.return_, 1) := by decide +kernel
theorem dX6_x_0 : decode cX6_x 0 = .ok (.aload_n 0, 1) := by decide +kernel
theorem dX6_x_1 : decode cX6_x 1 = .ok (.getfield 9, 3) := by decide +kernel
theorem dX6_x_4 : decode cX6_x 4 = .ok (.iload_n 1, 1) := by decide +kernel
theorem dX6_x_5 : decode cX6_x 5 = .ok (.laload, 1) := by decide +kernel
theorem dX6_x_6 : decode cX6_x 6 = .ok (.lreturn, 1) := by decide +kernel
theorem dX6_a_0 : decode cX6_a 0 = .ok (.aload_n 0, 1) := by decide +kernel
theorem dX6_a_1 : decode cX6_a 1 = .ok (.getfield 9, 3) := by decide +kernel
theorem dX6_a_4 : decode cX6_a 4 = .ok (.bipush 8, 2) := by decide +kernel
theorem dX6_a_6 : decode cX6_a 6 = .ok (.iload_n 1, 1) := by decide +kernel
theorem dX6_a_7 : decode cX6_a 7 = .ok (.iadd, 1) := by decide +kernel
theorem dX6_a_8 : decode cX6_a 8 = .ok (.laload, 1) := by decide +kernel
theorem dX6_a_9 : decode cX6_a 9 = .ok (.lreturn, 1) := by decide +kernel
theorem dX6_b_0 : decode cX6_b 0 = .ok (.aload_n 0, 1) := by decide +kernel
theorem dX6_b_1 : decode cX6_b 1 = .ok (.getfield 9, 3) := by decide +kernel
theorem dX6_b_4 : decode cX6_b 4 = .ok (.bipush 16, 2) := by decide +kernel
theorem dX6_b_6 : decode cX6_b 6 = .ok (.iload_n 1, 1) := by decide +kernel
theorem dX6_b_7 : decode cX6_b 7 = .ok (.iadd, 1) := by decide +kernel
theorem dX6_b_8 : decode cX6_b 8 = .ok (.laload, 1) := by decide +kernel
theorem dX6_b_9 : decode cX6_b 9 = .ok (.lreturn, 1) := by decide +kernel
set_option maxRecDepth 20000 in
theorem ggX7_apply_X1_unit : GoodIn wsX7_apply wsX1_unit := goodIn_r _ [5, 6, 145, 146, 147, 148, 149, 150, 151, 152, 153] (by decide +kernel) (by decide +kernel)
set_option maxRecDepth 20000 in
theorem gX7_apply_X1_unit : GoodIn wsX7_apply (wsV RX7 9 RX1 yX1_unit wsX1_unit) := goodIn_app (goodIn_of _ (by decide +kernel)) ggX7_apply_X1_unit
set_option maxRecDepth 20000 in
theorem ggX7_apply_X1_i : GoodIn wsX7_apply wsX1_i := goodIn_r _ [10, 11, 145, 146, 147, 148, 149, 150, 151, 152, 153] (by decide +kernel) (by decide +kernel)
set_option maxRecDepth 20000 in
theorem gX7_apply_X1_i : GoodIn wsX7_apply (wsV RX7 15 RX1 yX1_i wsX1_i) := goodIn_app (goodIn_of _ (by decide +kernel)) ggX7_apply_X1_i
set_option maxRecDepth 20000 in
theorem ggX7_apply_X1_op : GoodIn wsX7_apply wsX1_op := goodIn_r _ [15, 16, 145, 146, 147, 148, 149, 150, 151, 152, 153] (by decide +kernel) (by decide +kernel)
set_option maxRecDepth 20000 in
theorem gX7_apply_X1_op : GoodIn wsX7_apply (wsV RX7 18 RX1 yX1_op wsX1_op) := goodIn_app (goodIn_of _ (by decide +kernel)) ggX7_apply_X1_op
set_option maxRecDepth 20000 in
theorem ggX7_apply_X1_j : GoodIn wsX7_apply wsX1_j := goodIn_r _ [20, 21, 145, 146, 147, 148, 149, 150, 151, 152, 153] (by decide +kernel) (by decide +kernel)
set_option maxRecDepth 20000 in
theorem gX7_apply_X1_j : GoodIn wsX7_apply (wsV RX7 21 RX1 yX1_j wsX1_j) := goodIn_app (goodIn_of _ (by decide +kernel)) ggX7_apply_X1_j
set_option maxRecDepth 20000 in
theorem ggX7_apply_X6_x : GoodIn wsX7_apply wsX6_x := goodIn_r _ [26, 27, 154] (by decide +kernel) (by decide +kernel)
set_option maxRecDepth 20000 in
theorem gX7_apply_X6_x : GoodIn wsX7_apply (wsV RX7 24 RX6 yX6_x wsX6_x) := goodIn_app (goodIn_of _ (by decide +kernel)) ggX7_apply_X6_x
set_option maxRecDepth 20000 in
theorem ggX7_apply_X1_k : GoodIn wsX7_apply wsX1_k := goodIn_r _ [31, 32, 145, 146, 147, 148, 149, 150, 151, 152, 153] (by decide +kernel) (by decide +kernel)
set_option maxRecDepth 20000 in
theorem gX7_apply_X1_k : GoodIn wsX7_apply (wsV RX7 30 RX1 yX1_k wsX1_k) := goodIn_app (goodIn_of _ (by decide +kernel)) ggX7_apply_X1_k
set_option maxRecDepth 20000 in
theorem ggX7_apply_X7_logic : GoodIn wsX7_apply wsX7_logic := goodIn_r _ [36, 37] (by decide +kernel) (by decide +kernel)
set_option maxRecDepth 20000 in
theorem gX7_apply_X7_logic : GoodIn wsX7_apply (va_wsS RX7 33 yX7_logic wsX7_logic) := goodIn_app (goodIn_of _ (by decide +kernel)) ggX7_apply_X7_logic
set_option maxRecDepth 20000 in
theorem ggX7_apply_X6_set : GoodIn wsX7_apply wsX6_set := goodIn_r _ [41, 27, 42, 43, 154] (by decide +kernel) (by decide +kernel)
set_option maxRecDepth 20000 in
theorem gX7_apply_X6_set : GoodIn wsX7_apply (wsV RX7 39 RX6 yX6_set wsX6_set) := goodIn_app (goodIn_of _ (by decide +kernel)) ggX7_apply_X6_set
set_option maxRecDepth 20000 in
theorem ggX7_apply_X7_shift : GoodIn wsX7_apply wsX7_shift := goodIn_r _ [46, 12, 13, 14, 4, 15, 16, 7, 8, 9, 10, 11, 22, 23, 24, 25, 26, 27, 47, 48, 49, 50, 21, 32, 51, 52, 53, 54, 55, 56, 57, 58, 59, 60, 61, 62, 63, 64, 65, 66, 28, 29, 30, 31, 17, 18, 19, 20, 67, 68, 69, 70, 71, 72, 35, 73, 37, 74, 75, 76, 77, 78, 79, 80, 145, 146, 147, 148, 149, 150, 151, 152, 153, 154] (by decide +kernel) (by decide +kernel)
set_option maxRecDepth 20000 in
theorem gX7_apply_X7_shift : GoodIn wsX7_apply (va_wsS RX7 43 yX7_shift wsX7_shift) := goodIn_app (goodIn_of _ (by decide +kernel)) ggX7_apply_X7_shift
set_option maxRecDepth 20000 in
theorem ggX7_apply_X7_wordSum : GoodIn wsX7_apply wsX7_wordSum := goodIn_r _ [83, 84, 85, 86, 53, 87, 88, 89, 90, 91] (by decide +kernel) (by decide +kernel)
set_option maxRecDepth 20000 in
theorem gX7_apply_X7_wordSum : GoodIn wsX7_apply (va_wsS RX7 47 yX7_wordSum wsX7_wordSum) := goodIn_app (goodIn_of _ (by decide +kernel)) ggX7_apply_X7_wordSum
set_option maxRecDepth 20000 in
theorem ggX7_apply_J13_bitCount_95d88 : GoodIn wsX7_apply wsJ13_bitCount_95d88 := goodIn_r _ [95, 96, 97, 98] (by decide +kernel) (by decide +kernel)
set_option maxRecDepth 20000 in
theorem gX7_apply_J13_bitCount_95d88 : GoodIn wsX7_apply (va_wsS RX7 50 yJ13_bitCount_95d88 wsJ13_bitCount_95d88) := goodIn_app (goodIn_of _ (by decide +kernel)) ggX7_apply_J13_bitCount_95d88
set_option maxRecDepth 20000 in
theorem ggX7_apply_X7_applyAddress : GoodIn wsX7_apply wsX7_applyAddress := goodIn_r _ [101, 102, 103, 35, 104, 105, 17, 18, 19, 4, 20, 21, 106, 107, 108, 25, 109, 27, 67, 68, 69, 70, 22, 23, 24, 26, 28, 29, 30, 31, 32, 12, 13, 14, 15, 16, 110, 111, 112, 113, 114, 85, 86, 53, 87, 88, 89, 90, 91, 7, 8, 9, 10, 11, 38, 39, 40, 41, 42, 43, 115, 116, 117, 118, 119, 120, 121, 122, 123, 124, 125, 126, 127, 128, 129, 130, 131, 132, 133, 134, 135, 136, 137, 138, 139, 140, 141, 142, 143, 144, 75, 76, 77, 145, 146, 147, 148, 149, 150, 151, 152, 153, 154, 155, 156] (by decide +kernel) (by decide +kernel)
set_option maxRecDepth 20000 in
theorem gX7_apply_X7_applyAddress : GoodIn wsX7_apply (va_wsS RX7 56 yX7_applyAddress wsX7_applyAddress) := goodIn_app (goodIn_of _ (by decide +kernel)) ggX7_apply_X7_applyAddress
theorem dX7_apply_0 : decode cX7_apply 0 = .ok (.aload_n 0, 1) := by decide +kernel
theorem dX7_apply_1 : decode cX7_apply 1 = .ok (.invokevirtual 9, 3) := by decide +kernel
theorem dX7_apply_4 : decode cX7_apply 4 = .ok (.tableswitch 152 0 4 #[36, 70, 86, 120, 143], 36) := by decide +kernel
theorem dX7_apply_40 : decode cX7_apply 40 = .ok (.aload_n 1, 1) := by decide +kernel
theorem dX7_apply_41 : decode cX7_apply 41 = .ok (.aload_n 0, 1) := by decide +kernel
theorem dX7_apply_42 : decode cX7_apply 42 = .ok (.invokevirtual 15, 3) := by decide +kernel
theorem dX7_apply_45 : decode cX7_apply 45 = .ok (.aload_n 0, 1) := by decide +kernel
theorem dX7_apply_46 : decode cX7_apply 46 = .ok (.invokevirtual 18, 3) := by decide +kernel
theorem dX7_apply_49 : decode cX7_apply 49 = .ok (.aload_n 1, 1) := by decide +kernel
theorem dX7_apply_50 : decode cX7_apply 50 = .ok (.aload_n 0, 1) := by decide +kernel
theorem dX7_apply_51 : decode cX7_apply 51 = .ok (.invokevirtual 21, 3) := by decide +kernel
theorem dX7_apply_54 : decode cX7_apply 54 = .ok (.invokevirtual 24, 3) := by decide +kernel
theorem dX7_apply_57 : decode cX7_apply 57 = .ok (.aload_n 1, 1) := by decide +kernel
theorem dX7_apply_58 : decode cX7_apply 58 = .ok (.aload_n 0, 1) := by decide +kernel
theorem dX7_apply_59 : decode cX7_apply 59 = .ok (.invokevirtual 30, 3) := by decide +kernel
theorem dX7_apply_62 : decode cX7_apply 62 = .ok (.invokevirtual 24, 3) := by decide +kernel
theorem dX7_apply_65 : decode cX7_apply 65 = .ok (.invokestatic 33, 3) := by decide +kernel
theorem dX7_apply_68 : decode cX7_apply 68 = .ok (.invokevirtual 39, 3) := by decide +kernel
theorem dX7_apply_71 : decode cX7_apply 71 = .ok (.goto 85, 3) := by decide +kernel
theorem dX7_apply_74 : decode cX7_apply 74 = .ok (.aload_n 1, 1) := by decide +kernel
theorem dX7_apply_75 : decode cX7_apply 75 = .ok (.aload_n 0, 1) := by decide +kernel
theorem dX7_apply_76 : decode cX7_apply 76 = .ok (.invokevirtual 15, 3) := by decide +kernel
theorem dX7_apply_79 : decode cX7_apply 79 = .ok (.aload_n 0, 1) := by decide +kernel
theorem dX7_apply_80 : decode cX7_apply 80 = .ok (.aload_n 1, 1) := by decide +kernel
theorem dX7_apply_81 : decode cX7_apply 81 = .ok (.invokestatic 43, 3) := by decide +kernel
theorem dX7_apply_84 : decode cX7_apply 84 = .ok (.invokevirtual 39, 3) := by decide +kernel
theorem dX7_apply_87 : decode cX7_apply 87 = .ok (.goto 69, 3) := by decide +kernel
theorem dX7_apply_90 : decode cX7_apply 90 = .ok (.aload_n 1, 1) := by decide +kernel
theorem dX7_apply_91 : decode cX7_apply 91 = .ok (.aload_n 0, 1) := by decide +kernel
theorem dX7_apply_92 : decode cX7_apply 92 = .ok (.invokevirtual 15, 3) := by decide +kernel
theorem dX7_apply_95 : decode cX7_apply 95 = .ok (.aload_n 0, 1) := by decide +kernel
theorem dX7_apply_96 : decode cX7_apply 96 = .ok (.invokevirtual 18, 3) := by decide +kernel
theorem dX7_apply_99 : decode cX7_apply 99 = .ok (.aload_n 1, 1) := by decide +kernel
theorem dX7_apply_100 : decode cX7_apply 100 = .ok (.aload_n 0, 1) := by decide +kernel
theorem dX7_apply_101 : decode cX7_apply 101 = .ok (.invokevirtual 21, 3) := by decide +kernel
theorem dX7_apply_104 : decode cX7_apply 104 = .ok (.invokevirtual 24, 3) := by decide +kernel
theorem dX7_apply_107 : decode cX7_apply 107 = .ok (.aload_n 1, 1) := by decide +kernel
theorem dX7_apply_108 : decode cX7_apply 108 = .ok (.aload_n 0, 1) := by decide +kernel
theorem dX7_apply_109 : decode cX7_apply 109 = .ok (.invokevirtual 30, 3) := by decide +kernel
theorem dX7_apply_112 : decode cX7_apply 112 = .ok (.invokevirtual 24, 3) := by decide +kernel
theorem dX7_apply_115 : decode cX7_apply 115 = .ok (.invokestatic 47, 3) := by decide +kernel
theorem dX7_apply_118 : decode cX7_apply 118 = .ok (.invokevirtual 39, 3) := by decide +kernel
theorem dX7_apply_121 : decode cX7_apply 121 = .ok (.goto 35, 3) := by decide +kernel
theorem dX7_apply_124 : decode cX7_apply 124 = .ok (.aload_n 1, 1) := by decide +kernel
theorem dX7_apply_125 : decode cX7_apply 125 = .ok (.aload_n 0, 1) := by decide +kernel
theorem dX7_apply_126 : decode cX7_apply 126 = .ok (.invokevirtual 15, 3) := by decide +kernel
theorem dX7_apply_129 : decode cX7_apply 129 = .ok (.aload_n 1, 1) := by decide +kernel
theorem dX7_apply_130 : decode cX7_apply 130 = .ok (.aload_n 0, 1) := by decide +kernel
theorem dX7_apply_131 : decode cX7_apply 131 = .ok (.invokevirtual 30, 3) := by decide +kernel
theorem dX7_apply_134 : decode cX7_apply 134 = .ok (.invokevirtual 24, 3) := by decide +kernel
theorem dX7_apply_137 : decode cX7_apply 137 = .ok (.invokestatic 50, 3) := by decide +kernel
theorem dX7_apply_140 : decode cX7_apply 140 = .ok (.i2l, 1) := by decide +kernel
theorem dX7_apply_141 : decode cX7_apply 141 = .ok (.invokevirtual 39, 3) := by decide +kernel
theorem dX7_apply_144 : decode cX7_apply 144 = .ok (.goto 12, 3) := by decide +kernel
theorem dX7_apply_147 : decode cX7_apply 147 = .ok (.aload_n 0, 1) := by decide +kernel
theorem dX7_apply_148 : decode cX7_apply 148 = .ok (.aload_n 1, 1) := by decide +kernel
theorem dX7_apply_149 : decode cX7_apply 149 = .ok (.aload_n 2, 1) := by decide +kernel
theorem dX7_apply_150 : decode cX7_apply 150 = .ok (.invokestatic 56, 3) := by decide +kernel
theorem dX7_apply_153 : decode cX7_apply 153 = .ok (.goto 3, 3) := by decide +kernel
theorem dX7_apply_156 : decode cX7_apply 156 = .ok (.return_, 1) := by decide +kernel
theorem dX7_logic_0 : decode cX7_logic 0 = .ok (.iload_n 0, 1) := by decide +kernel
theorem dX7_logic_1 : decode cX7_logic 1 = .ok (.tableswitch 79 8 14 #[43, 45, 49, 53, 57, 63, 71], 43) := by decide +kernel
theorem dX7_logic_44 : decode cX7_logic 44 = .ok (.lload_n 1, 1) := by decide +kernel
theorem dX7_logic_45 : decode cX7_logic 45 = .ok (.lreturn, 1) := by decide +kernel
theorem dX7_logic_46 : decode cX7_logic 46 = .ok (.lload_n 1, 1) := by decide +kernel
theorem dX7_logic_47 : decode cX7_logic 47 = .ok (.lload_n 3, 1) := by decide +kernel
theorem dX7_logic_48 : decode cX7_logic 48 = .ok (.land, 1) := by decide +kernel
theorem dX7_logic_49 : decode cX7_logic 49 = .ok (.lreturn, 1) := by decide +kernel
theorem dX7_logic_50 : decode cX7_logic 50 = .ok (.lload_n 1, 1) := by decide +kernel
theorem dX7_logic_51 : decode cX7_logic 51 = .ok (.lload_n 3, 1) := by decide +kernel
theorem dX7_logic_52 : decode cX7_logic 52 = .ok (.lor, 1) := by decide +kernel
theorem dX7_logic_53 : decode cX7_logic 53 = .ok (.lreturn, 1) := by decide +kernel
theorem dX7_logic_54 : decode cX7_logic 54 = .ok (.lload_n 1, 1) := by decide +kernel
theorem dX7_logic_55 : decode cX7_logic 55 = .ok (.lload_n 3, 1) := by decide +kernel
theorem dX7_logic_56 : decode cX7_logic 56 = .ok (.lxor, 1) := by decide +kernel
theorem dX7_logic_57 : decode cX7_logic 57 = .ok (.lreturn, 1) := by decide +kernel
theorem dX7_logic_58 : decode cX7_logic 58 = .ok (.lload_n 3, 1) := by decide +kernel
theorem dX7_logic_59 : decode cX7_logic 59 = .ok (.ldc2_w 60, 3) := by decide +kernel
theorem dX7_logic_62 : decode cX7_logic 62 = .ok (.lxor, 1) := by decide +kernel
theorem dX7_logic_63 : decode cX7_logic 63 = .ok (.lreturn, 1) := by decide +kernel
theorem dX7_logic_64 : decode cX7_logic 64 = .ok (.lload_n 1, 1) := by decide +kernel
theorem dX7_logic_65 : decode cX7_logic 65 = .ok (.lload_n 3, 1) := by decide +kernel
theorem dX7_logic_66 : decode cX7_logic 66 = .ok (.ldc2_w 60, 3) := by decide +kernel
theorem dX7_logic_69 : decode cX7_logic 69 = .ok (.lxor, 1) := by decide +kernel
theorem dX7_logic_70 : decode cX7_logic 70 = .ok (.land, 1) := by decide +kernel
theorem dX7_logic_71 : decode cX7_logic 71 = .ok (.lreturn, 1) := by decide +kernel
theorem dX7_logic_72 : decode cX7_logic 72 = .ok (.lload_n 1, 1) := by decide +kernel
theorem dX7_logic_73 : decode cX7_logic 73 = .ok (.lload_n 3, 1) := by decide +kernel
theorem dX7_logic_74 : decode cX7_logic 74 = .ok (.ldc2_w 60, 3) := by decide +kernel
theorem dX7_logic_77 : decode cX7_logic 77 = .ok (.lxor, 1) := by decide +kernel
theorem dX7_logic_78 : decode cX7_logic 78 = .ok (.lor, 1) := by decide +kernel
theorem dX7_logic_79 : decode cX7_logic 79 = .ok (.lreturn, 1) := by decide +kernel
theorem dX7_logic_80 : decode cX7_logic 80 = .ok (.lload_n 1, 1) := by decide +kernel
theorem dX7_logic_81 : decode cX7_logic 81 = .ok (.lload_n 3, 1) := by decide +kernel
theorem dX7_logic_82 : decode cX7_logic 82 = .ok (.ldc2_w 60, 3) := by decide +kernel
theorem dX7_logic_85 : decode cX7_logic 85 = .ok (.lxor, 1) := by decide +kernel
theorem dX7_logic_86 : decode cX7_logic 86 = .ok (.lxor, 1) := by decide +kernel
theorem dX7_logic_87 : decode cX7_logic 87 = .ok (.lreturn, 1) := by decide +kernel
set_option maxRecDepth 20000 in
theorem ggX7_shift_X1_op : GoodIn wsX7_shift wsX1_op := goodIn_r _ [5, 6, 64, 65, 66, 67, 68, 69, 70, 71, 72] (by decide +kernel) (by decide +kernel)
set_option maxRecDepth 20000 in
theorem gX7_shift_X1_op : GoodIn wsX7_shift (wsV RX7 18 RX1 yX1_op wsX1_op) := goodIn_app (goodIn_of _ (by decide +kernel)) ggX7_shift_X1_op
set_option maxRecDepth 20000 in
theorem ggX7_shift_X1_i : GoodIn wsX7_shift wsX1_i := goodIn_r _ [10, 11, 64, 65, 66, 67, 68, 69, 70, 71, 72] (by decide +kernel) (by decide +kernel)
set_option maxRecDepth 20000 in
theorem gX7_shift_X1_i : GoodIn wsX7_shift (wsV RX7 15 RX1 yX1_i wsX1_i) := goodIn_app (goodIn_of _ (by decide +kernel)) ggX7_shift_X1_i
set_option maxRecDepth 20000 in
theorem ggX7_shift_X6_x : GoodIn wsX7_shift wsX6_x := goodIn_r _ [16, 17, 73] (by decide +kernel) (by decide +kernel)
set_option maxRecDepth 20000 in
theorem gX7_shift_X6_x : GoodIn wsX7_shift (wsV RX7 24 RX6 yX6_x wsX6_x) := goodIn_app (goodIn_of _ (by decide +kernel)) ggX7_shift_X6_x
set_option maxRecDepth 20000 in
theorem ggX7_shift_X1_jk : GoodIn wsX7_shift wsX1_jk := goodIn_r _ [21, 22, 23, 64, 65, 66, 67, 68, 69, 70, 71, 72] (by decide +kernel) (by decide +kernel)
set_option maxRecDepth 20000 in
theorem gX7_shift_X1_jk : GoodIn wsX7_shift (wsV RX7 62 RX1 yX1_jk wsX1_jk) := goodIn_app (goodIn_of _ (by decide +kernel)) ggX7_shift_X1_jk
set_option maxRecDepth 20000 in
theorem ggX7_shift_X4_turnedRoundLeft : GoodIn wsX7_shift wsX4_turnedRoundLeft := goodIn_r _ [27, 28] (by decide +kernel) (by decide +kernel)
set_option maxRecDepth 20000 in
theorem gX7_shift_X4_turnedRoundLeft : GoodIn wsX7_shift (va_wsS RX7 65 yX4_turnedRoundLeft wsX4_turnedRoundLeft) := goodIn_app (goodIn_of _ (by decide +kernel)) ggX7_shift_X4_turnedRoundLeft
set_option maxRecDepth 20000 in
theorem ggX7_shift_X4_shiftedRight : GoodIn wsX7_shift wsX4_shiftedRight := goodIn_r _ [31, 32, 33, 34, 35, 36, 28, 37, 38, 26, 39] (by decide +kernel) (by decide +kernel)
set_option maxRecDepth 20000 in
theorem gX7_shift_X4_shiftedRight : GoodIn wsX7_shift (va_wsS RX7 71 yX4_shiftedRight wsX4_shiftedRight) := goodIn_app (goodIn_of _ (by decide +kernel)) ggX7_shift_X4_shiftedRight
set_option maxRecDepth 20000 in
theorem ggX7_shift_X1_k : GoodIn wsX7_shift wsX1_k := goodIn_r _ [43, 23, 64, 65, 66, 67, 68, 69, 70, 71, 72] (by decide +kernel) (by decide +kernel)
set_option maxRecDepth 20000 in
theorem gX7_shift_X1_k : GoodIn wsX7_shift (wsV RX7 30 RX1 yX1_k wsX1_k) := goodIn_app (goodIn_of _ (by decide +kernel)) ggX7_shift_X1_k
set_option maxRecDepth 20000 in
theorem ggX7_shift_X1_j : GoodIn wsX7_shift wsX1_j := goodIn_r _ [47, 22, 64, 65, 66, 67, 68, 69, 70, 71, 72] (by decide +kernel) (by decide +kernel)
set_option maxRecDepth 20000 in
theorem gX7_shift_X1_j : GoodIn wsX7_shift (wsV RX7 21 RX1 yX1_j wsX1_j) := goodIn_app (goodIn_of _ (by decide +kernel)) ggX7_shift_X1_j
set_option maxRecDepth 20000 in
theorem ggX7_shift_X6_b : GoodIn wsX7_shift wsX6_b := goodIn_r _ [51, 17, 73] (by decide +kernel) (by decide +kernel)
set_option maxRecDepth 20000 in
theorem gX7_shift_X6_b : GoodIn wsX7_shift (wsV RX7 74 RX6 yX6_b wsX6_b) := goodIn_app (goodIn_of _ (by decide +kernel)) ggX7_shift_X6_b
set_option maxRecDepth 20000 in
theorem ggX7_shift_X7_shiftBy : GoodIn wsX7_shift wsX7_shiftBy := goodIn_r _ [55, 56, 57, 58, 26, 59, 60, 24, 25, 27, 28, 29, 30, 31, 32, 33, 34, 35, 36, 37, 38, 39] (by decide +kernel) (by decide +kernel)
set_option maxRecDepth 20000 in
theorem gX7_shift_X7_shiftBy : GoodIn wsX7_shift (va_wsS RX7 77 yX7_shiftBy wsX7_shiftBy) := goodIn_app (goodIn_of _ (by decide +kernel)) ggX7_shift_X7_shiftBy
set_option maxRecDepth 20000 in
theorem ggX7_shift_X4_highestBits : GoodIn wsX7_shift wsX4_highestBits := goodIn_r _ [63, 28, 33, 34, 35, 36] (by decide +kernel) (by decide +kernel)
set_option maxRecDepth 20000 in
theorem gX7_shift_X4_highestBits : GoodIn wsX7_shift (va_wsS RX7 81 yX4_highestBits wsX4_highestBits) := goodIn_app (goodIn_of _ (by decide +kernel)) ggX7_shift_X4_highestBits
theorem dX7_shift_0 : decode cX7_shift 0 = .ok (.aload_n 0, 1) := by decide +kernel
theorem dX7_shift_1 : decode cX7_shift 1 = .ok (.invokevirtual 18, 3) := by decide +kernel
theorem dX7_shift_4 : decode cX7_shift 4 = .ok (.tableswitch 106 16 19 #[32, 48, 64, 85], 32) := by decide +kernel
theorem dX7_shift_36 : decode cX7_shift 36 = .ok (.aload_n 1, 1) := by decide +kernel
theorem dX7_shift_37 : decode cX7_shift 37 = .ok (.aload_n 0, 1) := by decide +kernel
theorem dX7_shift_38 : decode cX7_shift 38 = .ok (.invokevirtual 15, 3) := by decide +kernel
theorem dX7_shift_41 : decode cX7_shift 41 = .ok (.invokevirtual 24, 3) := by decide +kernel
theorem dX7_shift_44 : decode cX7_shift 44 = .ok (.aload_n 0, 1) := by decide +kernel
theorem dX7_shift_45 : decode cX7_shift 45 = .ok (.invokevirtual 62, 3) := by decide +kernel
theorem dX7_shift_48 : decode cX7_shift 48 = .ok (.invokestatic 65, 3) := by decide +kernel
theorem dX7_shift_51 : decode cX7_shift 51 = .ok (.lreturn, 1) := by decide +kernel
theorem dX7_shift_52 : decode cX7_shift 52 = .ok (.aload_n 1, 1) := by decide +kernel
theorem dX7_shift_53 : decode cX7_shift 53 = .ok (.aload_n 0, 1) := by decide +kernel
theorem dX7_shift_54 : decode cX7_shift 54 = .ok (.invokevirtual 15, 3) := by decide +kernel
theorem dX7_shift_57 : decode cX7_shift 57 = .ok (.invokevirtual 24, 3) := by decide +kernel
theorem dX7_shift_60 : decode cX7_shift 60 = .ok (.aload_n 0, 1) := by decide +kernel
theorem dX7_shift_61 : decode cX7_shift 61 = .ok (.invokevirtual 62, 3) := by decide +kernel
theorem dX7_shift_64 : decode cX7_shift 64 = .ok (.invokestatic 71, 3) := by decide +kernel
theorem dX7_shift_67 : decode cX7_shift 67 = .ok (.lreturn, 1) := by decide +kernel
theorem dX7_shift_68 : decode cX7_shift 68 = .ok (.aload_n 1, 1) := by decide +kernel
theorem dX7_shift_69 : decode cX7_shift 69 = .ok (.aload_n 0, 1) := by decide +kernel
theorem dX7_shift_70 : decode cX7_shift 70 = .ok (.invokevirtual 30, 3) := by decide +kernel
theorem dX7_shift_73 : decode cX7_shift 73 = .ok (.invokevirtual 24, 3) := by decide +kernel
theorem dX7_shift_76 : decode cX7_shift 76 = .ok (.aload_n 1, 1) := by decide +kernel
theorem dX7_shift_77 : decode cX7_shift 77 = .ok (.aload_n 0, 1) := by decide +kernel
theorem dX7_shift_78 : decode cX7_shift 78 = .ok (.invokevirtual 21, 3) := by decide +kernel
theorem dX7_shift_81 : decode cX7_shift 81 = .ok (.invokevirtual 74, 3) := by decide +kernel
theorem dX7_shift_84 : decode cX7_shift 84 = .ok (.iconst 1, 1) := by decide +kernel
theorem dX7_shift_85 : decode cX7_shift 85 = .ok (.invokestatic 77, 3) := by decide +kernel
theorem dX7_shift_88 : decode cX7_shift 88 = .ok (.lreturn, 1) := by decide +kernel
theorem dX7_shift_89 : decode cX7_shift 89 = .ok (.aload_n 1, 1) := by decide +kernel
theorem dX7_shift_90 : decode cX7_shift 90 = .ok (.aload_n 0, 1) := by decide +kernel
theorem dX7_shift_91 : decode cX7_shift 91 = .ok (.invokevirtual 30, 3) := by decide +kernel
theorem dX7_shift_94 : decode cX7_shift 94 = .ok (.invokevirtual 24, 3) := by decide +kernel
theorem dX7_shift_97 : decode cX7_shift 97 = .ok (.aload_n 1, 1) := by decide +kernel
theorem dX7_shift_98 : decode cX7_shift 98 = .ok (.aload_n 0, 1) := by decide +kernel
theorem dX7_shift_99 : decode cX7_shift 99 = .ok (.invokevirtual 21, 3) := by decide +kernel
theorem dX7_shift_102 : decode cX7_shift 102 = .ok (.invokevirtual 74, 3) := by decide +kernel
theorem dX7_shift_105 : decode cX7_shift 105 = .ok (.iconst 0, 1) := by decide +kernel
theorem dX7_shift_106 : decode cX7_shift 106 = .ok (.invokestatic 77, 3) := by decide +kernel
theorem dX7_shift_109 : decode cX7_shift 109 = .ok (.lreturn, 1) := by decide +kernel
theorem dX7_shift_110 : decode cX7_shift 110 = .ok (.aload_n 0, 1) := by decide +kernel
theorem dX7_shift_111 : decode cX7_shift 111 = .ok (.invokevirtual 62, 3) := by decide +kernel
theorem dX7_shift_114 : decode cX7_shift 114 = .ok (.invokestatic 81, 3) := by decide +kernel
theorem dX7_shift_117 : decode cX7_shift 117 = .ok (.lreturn, 1) := by decide +kernel
set_option maxRecDepth 20000 in
theorem ggX7_shiftBy_X4_isShortNegative : GoodIn wsX7_shiftBy wsX4_isShortNegative := goodIn_r _ [5, 6] (by decide +kernel) (by decide +kernel)
set_option maxRecDepth 20000 in
theorem gX7_shiftBy_X4_isShortNegative : GoodIn wsX7_shiftBy (va_wsS RX7 84 yX4_isShortNegative wsX4_isShortNegative) := goodIn_app (goodIn_of _ (by decide +kernel)) ggX7_shiftBy_X4_isShortNegative
set_option maxRecDepth 20000 in
theorem ggX7_shiftBy_X4_turnedRoundLeft : GoodIn wsX7_shiftBy wsX4_turnedRoundLeft := goodIn_r _ [9, 10] (by decide +kernel) (by decide +kernel)
set_option maxRecDepth 20000 in
theorem gX7_shiftBy_X4_turnedRoundLeft : GoodIn wsX7_shiftBy (va_wsS RX7 65 yX4_turnedRoundLeft wsX4_turnedRoundLeft) := goodIn_app (goodIn_of _ (by decide +kernel)) ggX7_shiftBy_X4_turnedRoundLeft
set_option maxRecDepth 20000 in
theorem ggX7_shiftBy_X4_shiftedRight : GoodIn wsX7_shiftBy wsX4_shiftedRight := goodIn_r _ [13, 14, 15, 16, 17, 18, 10, 19, 20, 4, 21] (by decide +kernel) (by decide +kernel)
set_option maxRecDepth 20000 in
theorem gX7_shiftBy_X4_shiftedRight : GoodIn wsX7_shiftBy (va_wsS RX7 71 yX4_shiftedRight wsX4_shiftedRight) := goodIn_app (goodIn_of _ (by decide +kernel)) ggX7_shiftBy_X4_shiftedRight
theorem dX7_shiftBy_0 : decode cX7_shiftBy 0 = .ok (.lload_n 2, 1) := by decide +kernel
theorem dX7_shiftBy_1 : decode cX7_shiftBy 1 = .ok (.invokestatic 84, 3) := by decide +kernel
theorem dX7_shiftBy_4 : decode cX7_shiftBy 4 = .ok (.istore 5, 2) := by decide +kernel
theorem dX7_shiftBy_6 : decode cX7_shiftBy 6 = .ok (.iload 5, 2) := by decide +kernel
theorem dX7_shiftBy_8 : decode cX7_shiftBy 8 = .ok (.ifCond .eq 11, 3) := by decide +kernel
theorem dX7_shiftBy_11 : decode cX7_shiftBy 11 = .ok (.lload_n 2, 1) := by decide +kernel
theorem dX7_shiftBy_12 : decode cX7_shiftBy 12 = .ok (.ldc2_w 60, 3) := by decide +kernel
theorem dX7_shiftBy_15 : decode cX7_shiftBy 15 = .ok (.lxor, 1) := by decide +kernel
theorem dX7_shiftBy_16 : decode cX7_shiftBy 16 = .ok (.goto 4, 3) := by decide +kernel
theorem dX7_shiftBy_19 : decode cX7_shiftBy 19 = .ok (.lload_n 2, 1) := by decide +kernel
theorem dX7_shiftBy_20 : decode cX7_shiftBy 20 = .ok (.l2i, 1) := by decide +kernel
theorem dX7_shiftBy_21 : decode cX7_shiftBy 21 = .ok (.bipush 63, 2) := by decide +kernel
theorem dX7_shiftBy_23 : decode cX7_shiftBy 23 = .ok (.iand, 1) := by decide +kernel
theorem dX7_shiftBy_24 : decode cX7_shiftBy 24 = .ok (.istore 6, 2) := by decide +kernel
theorem dX7_shiftBy_26 : decode cX7_shiftBy 26 = .ok (.iload 4, 2) := by decide +kernel
theorem dX7_shiftBy_28 : decode cX7_shiftBy 28 = .ok (.iload 5, 2) := by decide +kernel
theorem dX7_shiftBy_30 : decode cX7_shiftBy 30 = .ok (.if_icmp .eq 12, 3) := by decide +kernel
theorem dX7_shiftBy_33 : decode cX7_shiftBy 33 = .ok (.lload_n 0, 1) := by decide +kernel
theorem dX7_shiftBy_34 : decode cX7_shiftBy 34 = .ok (.iload 6, 2) := by decide +kernel
theorem dX7_shiftBy_36 : decode cX7_shiftBy 36 = .ok (.invokestatic 65, 3) := by decide +kernel
theorem dX7_shiftBy_39 : decode cX7_shiftBy 39 = .ok (.goto 9, 3) := by decide +kernel
theorem dX7_shiftBy_42 : decode cX7_shiftBy 42 = .ok (.lload_n 0, 1) := by decide +kernel
theorem dX7_shiftBy_43 : decode cX7_shiftBy 43 = .ok (.iload 6, 2) := by decide +kernel
theorem dX7_shiftBy_45 : decode cX7_shiftBy 45 = .ok (.invokestatic 71, 3) := by decide +kernel
theorem dX7_shiftBy_48 : decode cX7_shiftBy 48 = .ok (.lreturn, 1) := by decide +kernel
set_option maxRecDepth 20000 in
theorem ggX7_wordSum_X4_sum : GoodIn wsX7_wordSum wsX4_sum := goodIn_r _ [5] (by decide +kernel) (by decide +kernel)
set_option maxRecDepth 20000 in
theorem gX7_wordSum_X4_sum : GoodIn wsX7_wordSum (va_wsS RX7 90 yX4_sum wsX4_sum) := goodIn_app (goodIn_of _ (by decide +kernel)) ggX7_wordSum_X4_sum
set_option maxRecDepth 20000 in
theorem ggX7_wordSum_X4_difference : GoodIn wsX7_wordSum wsX4_difference := goodIn_r _ [8, 9, 3, 4, 5] (by decide +kernel) (by decide +kernel)
set_option maxRecDepth 20000 in
theorem gX7_wordSum_X4_difference : GoodIn wsX7_wordSum (va_wsS RX7 94 yX4_difference wsX4_difference) := goodIn_app (goodIn_of _ (by decide +kernel)) ggX7_wordSum_X4_difference
theorem dX7_wordSum_0 : decode cX7_wordSum 0 = .ok (.iload_n 0, 1) := by decide +kernel
theorem dX7_wordSum_1 : decode cX7_wordSum 1 = .ok (.bipush 30, 2) := by decide +kernel
theorem dX7_wordSum_3 : decode cX7_wordSum 3 = .ok (.if_icmp .ne 14, 3) := by decide +kernel
theorem dX7_wordSum_6 : decode cX7_wordSum 6 = .ok (.lload_n 1, 1) := by decide +kernel
theorem dX7_wordSum_7 : decode cX7_wordSum 7 = .ok (.lload_n 3, 1) := by decide +kernel
theorem dX7_wordSum_8 : decode cX7_wordSum 8 = .ok (.ldc2_w 88, 3) := by decide +kernel
theorem dX7_wordSum_11 : decode cX7_wordSum 11 = .ok (.invokestatic 90, 3) := by decide +kernel
theorem dX7_wordSum_14 : decode cX7_wordSum 14 = .ok (.goto 11, 3) := by decide +kernel
theorem dX7_wordSum_17 : decode cX7_wordSum 17 = .ok (.lload_n 1, 1) := by decide +kernel
theorem dX7_wordSum_18 : decode cX7_wordSum 18 = .ok (.lload_n 3, 1) := by decide +kernel
theorem dX7_wordSum_19 : decode cX7_wordSum 19 = .ok (.ldc2_w 88, 3) := by decide +kernel
theorem dX7_wordSum_22 : decode cX7_wordSum 22 = .ok (.invokestatic 94, 3) := by decide +kernel
theorem dX7_wordSum_25 : decode cX7_wordSum 25 = .ok (.lreturn, 1) := by decide +kernel
set_option maxRecDepth 20000 in
theorem ggX7_applyAddress_X7_shortSum : GoodIn wsX7_applyAddress wsX7_shortSum := goodIn_r _ [4, 5, 6, 7, 8, 9, 10, 11, 12, 13, 14, 15, 16, 17, 18, 19, 20, 21, 22, 23, 24, 25, 26, 27, 28, 29, 30, 31, 32, 33, 34, 35, 36, 37, 38, 39, 40, 41, 42, 43, 44, 45, 46, 47, 48, 93, 94, 95, 96, 97, 98, 99, 100, 101, 102] (by decide +kernel) (by decide +kernel)
set_option maxRecDepth 20000 in
theorem gX7_applyAddress_X7_shortSum : GoodIn wsX7_applyAddress (va_wsS RX7 97 yX7_shortSum wsX7_shortSum) := goodIn_app (goodIn_of _ (by decide +kernel)) ggX7_applyAddress_X7_shortSum
set_option maxRecDepth 20000 in
theorem ggX7_applyAddress_X1_i : GoodIn wsX7_applyAddress wsX1_i := goodIn_r _ [52, 53, 93, 94, 95, 96, 97, 98, 99, 100, 101] (by decide +kernel) (by decide +kernel)
set_option maxRecDepth 20000 in
theorem gX7_applyAddress_X1_i : GoodIn wsX7_applyAddress (wsV RX7 15 RX1 yX1_i wsX1_i) := goodIn_app (goodIn_of _ (by decide +kernel)) ggX7_applyAddress_X1_i
set_option maxRecDepth 20000 in
theorem ggX7_applyAddress_X1_op : GoodIn wsX7_applyAddress wsX1_op := goodIn_r _ [34, 35, 93, 94, 95, 96, 97, 98, 99, 100, 101] (by decide +kernel) (by decide +kernel)
set_option maxRecDepth 20000 in
theorem gX7_applyAddress_X1_op : GoodIn wsX7_applyAddress (wsV RX7 18 RX1 yX1_op wsX1_op) := goodIn_app (goodIn_of _ (by decide +kernel)) ggX7_applyAddress_X1_op
set_option maxRecDepth 20000 in
theorem ggX7_applyAddress_X6_set : GoodIn wsX7_applyAddress wsX6_set := goodIn_r _ [57, 17, 58, 59, 102] (by decide +kernel) (by decide +kernel)
set_option maxRecDepth 20000 in
theorem gX7_applyAddress_X6_set : GoodIn wsX7_applyAddress (wsV RX7 39 RX6 yX6_set wsX6_set) := goodIn_app (goodIn_of _ (by decide +kernel)) ggX7_applyAddress_X6_set
set_option maxRecDepth 20000 in
theorem ggX7_applyAddress_X7_reachMemory : GoodIn wsX7_applyAddress wsX7_reachMemory := goodIn_r _ [62, 63, 64, 65, 9, 66, 35, 53, 49, 50, 51, 52, 67, 68, 69, 70, 71, 72, 73, 74, 75, 54, 55, 56, 15, 57, 17, 58, 59, 76, 77, 78, 79, 22, 23, 24, 25, 80, 81, 82, 83, 84, 93, 94, 95, 96, 97, 98, 99, 100, 101, 103, 104, 102] (by decide +kernel) (by decide +kernel)
set_option maxRecDepth 20000 in
theorem gX7_applyAddress_X7_reachMemory : GoodIn wsX7_applyAddress (va_wsS RX7 100 yX7_reachMemory wsX7_reachMemory) := goodIn_app (goodIn_of _ (by decide +kernel)) ggX7_applyAddress_X7_reachMemory
set_option maxRecDepth 20000 in
theorem ggX7_applyAddress_X4_extended : GoodIn wsX7_applyAddress wsX4_extended := goodIn_r _ [87, 88, 89, 90, 43, 91, 92] (by decide +kernel) (by decide +kernel)
set_option maxRecDepth 20000 in
theorem gX7_applyAddress_X4_extended : GoodIn wsX7_applyAddress (va_wsS RX7 104 yX4_extended wsX4_extended) := goodIn_app (goodIn_of _ (by decide +kernel)) ggX7_applyAddress_X4_extended
theorem dX7_applyAddress_0 : decode cX7_applyAddress 0 = .ok (.aload_n 0, 1) := by decide +kernel
theorem dX7_applyAddress_1 : decode cX7_applyAddress 1 = .ok (.aload_n 1, 1) := by decide +kernel
theorem dX7_applyAddress_2 : decode cX7_applyAddress 2 = .ok (.invokestatic 97, 3) := by decide +kernel
theorem dX7_applyAddress_5 : decode cX7_applyAddress 5 = .ok (.lstore_n 3, 1) := by decide +kernel
theorem dX7_applyAddress_6 : decode cX7_applyAddress 6 = .ok (.aload_n 0, 1) := by decide +kernel
theorem dX7_applyAddress_7 : decode cX7_applyAddress 7 = .ok (.invokevirtual 15, 3) := by decide +kernel
theorem dX7_applyAddress_10 : decode cX7_applyAddress 10 = .ok (.istore 5, 2) := by decide +kernel
theorem dX7_applyAddress_12 : decode cX7_applyAddress 12 = .ok (.aload_n 0, 1) := by decide +kernel
theorem dX7_applyAddress_13 : decode cX7_applyAddress 13 = .ok (.invokevirtual 18, 3) := by decide +kernel
theorem dX7_applyAddress_16 : decode cX7_applyAddress 16 = .ok (.iconst 3, 1) := by decide +kernel
theorem dX7_applyAddress_17 : decode cX7_applyAddress 17 = .ok (.ishr, 1) := by decide +kernel
theorem dX7_applyAddress_18 : decode cX7_applyAddress 18 = .ok (.lookupswitch 60 #[(5, 26), (6, 47)], 26) := by decide +kernel
theorem dX7_applyAddress_44 : decode cX7_applyAddress 44 = .ok (.aload_n 1, 1) := by decide +kernel
theorem dX7_applyAddress_45 : decode cX7_applyAddress 45 = .ok (.bipush 8, 2) := by decide +kernel
theorem dX7_applyAddress_47 : decode cX7_applyAddress 47 = .ok (.iload 5, 2) := by decide +kernel
theorem dX7_applyAddress_49 : decode cX7_applyAddress 49 = .ok (.iadd, 1) := by decide +kernel
theorem dX7_applyAddress_50 : decode cX7_applyAddress 50 = .ok (.lload_n 3, 1) := by decide +kernel
theorem dX7_applyAddress_51 : decode cX7_applyAddress 51 = .ok (.invokevirtual 39, 3) := by decide +kernel
theorem dX7_applyAddress_54 : decode cX7_applyAddress 54 = .ok (.aload_n 0, 1) := by decide +kernel
theorem dX7_applyAddress_55 : decode cX7_applyAddress 55 = .ok (.lload_n 3, 1) := by decide +kernel
theorem dX7_applyAddress_56 : decode cX7_applyAddress 56 = .ok (.l2i, 1) := by decide +kernel
theorem dX7_applyAddress_57 : decode cX7_applyAddress 57 = .ok (.aload_n 1, 1) := by decide +kernel
theorem dX7_applyAddress_58 : decode cX7_applyAddress 58 = .ok (.aload_n 2, 1) := by decide +kernel
theorem dX7_applyAddress_59 : decode cX7_applyAddress 59 = .ok (.invokestatic 100, 3) := by decide +kernel
theorem dX7_applyAddress_62 : decode cX7_applyAddress 62 = .ok (.goto 26, 3) := by decide +kernel
theorem dX7_applyAddress_65 : decode cX7_applyAddress 65 = .ok (.aload_n 1, 1) := by decide +kernel
theorem dX7_applyAddress_66 : decode cX7_applyAddress 66 = .ok (.bipush 16, 2) := by decide +kernel
theorem dX7_applyAddress_68 : decode cX7_applyAddress 68 = .ok (.iload 5, 2) := by decide +kernel
theorem dX7_applyAddress_70 : decode cX7_applyAddress 70 = .ok (.iadd, 1) := by decide +kernel
theorem dX7_applyAddress_71 : decode cX7_applyAddress 71 = .ok (.lload_n 3, 1) := by decide +kernel
theorem dX7_applyAddress_72 : decode cX7_applyAddress 72 = .ok (.invokevirtual 39, 3) := by decide +kernel
theorem dX7_applyAddress_75 : decode cX7_applyAddress 75 = .ok (.goto 13, 3) := by decide +kernel
theorem dX7_applyAddress_78 : decode cX7_applyAddress 78 = .ok (.aload_n 1, 1) := by decide +kernel
theorem dX7_applyAddress_79 : decode cX7_applyAddress 79 = .ok (.iload 5, 2) := by decide +kernel
theorem dX7_applyAddress_81 : decode cX7_applyAddress 81 = .ok (.lload_n 3, 1) := by decide +kernel
theorem dX7_applyAddress_82 : decode cX7_applyAddress 82 = .ok (.invokestatic 104, 3) := by decide +kernel
theorem dX7_applyAddress_85 : decode cX7_applyAddress 85 = .ok (.invokevirtual 39, 3) := by decide +kernel
theorem dX7_applyAddress_88 : decode cX7_applyAddress 88 = .ok (.return_, 1) := by decide +kernel
set_option maxRecDepth 20000 in
theorem ggX7_reachMemory_X1_loads : GoodIn wsX7_reachMemory wsX1_loads := goodIn_r _ [5, 6, 7, 42, 43, 44, 45, 46, 47, 48, 49, 50] (by decide +kernel) (by decide +kernel)
set_option maxRecDepth 20000 in
theorem gX7_reachMemory_X1_loads : GoodIn wsX7_reachMemory (wsV RX7 108 RX1 yX1_loads wsX1_loads) := goodIn_app (goodIn_of _ (by decide +kernel)) ggX7_reachMemory_X1_loads
set_option maxRecDepth 20000 in
theorem ggX7_reachMemory_X1_i : GoodIn wsX7_reachMemory wsX1_i := goodIn_r _ [11, 7, 42, 43, 44, 45, 46, 47, 48, 49, 50] (by decide +kernel) (by decide +kernel)
set_option maxRecDepth 20000 in
theorem gX7_reachMemory_X1_i : GoodIn wsX7_reachMemory (wsV RX7 15 RX1 yX1_i wsX1_i) := goodIn_app (goodIn_of _ (by decide +kernel)) ggX7_reachMemory_X1_i
set_option maxRecDepth 20000 in
theorem ggX7_reachMemory_X3_load : GoodIn wsX7_reachMemory wsX3_load := goodIn_r _ [16, 17, 18, 19, 15, 20, 51, 52] (by decide +kernel) (by decide +kernel)
set_option maxRecDepth 20000 in
theorem gX7_reachMemory_X3_load : GoodIn wsX7_reachMemory (wsV RX7 112 RX3 yX3_load wsX3_load) := goodIn_app (goodIn_of _ (by decide +kernel)) ggX7_reachMemory_X3_load
set_option maxRecDepth 20000 in
theorem ggX7_reachMemory_X6_set : GoodIn wsX7_reachMemory wsX6_set := goodIn_r _ [25, 26, 27, 28, 53] (by decide +kernel) (by decide +kernel)
set_option maxRecDepth 20000 in
theorem gX7_reachMemory_X6_set : GoodIn wsX7_reachMemory (wsV RX7 39 RX6 yX6_set wsX6_set) := goodIn_app (goodIn_of _ (by decide +kernel)) ggX7_reachMemory_X6_set
set_option maxRecDepth 20000 in
theorem ggX7_reachMemory_X1_stores : GoodIn wsX7_reachMemory wsX1_stores := goodIn_r _ [32, 6, 7, 42, 43, 44, 45, 46, 47, 48, 49, 50] (by decide +kernel) (by decide +kernel)
set_option maxRecDepth 20000 in
theorem gX7_reachMemory_X1_stores : GoodIn wsX7_reachMemory (wsV RX7 117 RX1 yX1_stores wsX1_stores) := goodIn_app (goodIn_of _ (by decide +kernel)) ggX7_reachMemory_X1_stores
set_option maxRecDepth 20000 in
theorem ggX7_reachMemory_X6_x : GoodIn wsX7_reachMemory wsX6_x := goodIn_r _ [36, 26, 53] (by decide +kernel) (by decide +kernel)
set_option maxRecDepth 20000 in
theorem gX7_reachMemory_X6_x : GoodIn wsX7_reachMemory (wsV RX7 24 RX6 yX6_x wsX6_x) := goodIn_app (goodIn_of _ (by decide +kernel)) ggX7_reachMemory_X6_x
set_option maxRecDepth 20000 in
theorem ggX7_reachMemory_X3_store : GoodIn wsX7_reachMemory wsX3_store := goodIn_r _ [40, 17, 41, 18, 19, 15, 20, 51, 52] (by decide +kernel) (by decide +kernel)
set_option maxRecDepth 20000 in
theorem gX7_reachMemory_X3_store : GoodIn wsX7_reachMemory (wsV RX7 120 RX3 yX3_store wsX3_store) := goodIn_app (goodIn_of _ (by decide +kernel)) ggX7_reachMemory_X3_store
theorem dX7_reachMemory_0 : decode cX7_reachMemory 0 = .ok (.aload_n 0, 1) := by decide +kernel
theorem dX7_reachMemory_1 : decode cX7_reachMemory 1 = .ok (.invokevirtual 108, 3) := by decide +kernel
theorem dX7_reachMemory_4 : decode cX7_reachMemory 4 = .ok (.ifCond .eq 19, 3) := by decide +kernel
theorem dX7_reachMemory_7 : decode cX7_reachMemory 7 = .ok (.aload_n 2, 1) := by decide +kernel
theorem dX7_reachMemory_8 : decode cX7_reachMemory 8 = .ok (.aload_n 0, 1) := by decide +kernel
theorem dX7_reachMemory_9 : decode cX7_reachMemory 9 = .ok (.invokevirtual 15, 3) := by decide +kernel
theorem dX7_reachMemory_12 : decode cX7_reachMemory 12 = .ok (.aload_n 3, 1) := by decide +kernel
theorem dX7_reachMemory_13 : decode cX7_reachMemory 13 = .ok (.iload_n 1, 1) := by decide +kernel
theorem dX7_reachMemory_14 : decode cX7_reachMemory 14 = .ok (.invokevirtual 112, 3) := by decide +kernel
theorem dX7_reachMemory_17 : decode cX7_reachMemory 17 = .ok (.invokevirtual 39, 3) := by decide +kernel
theorem dX7_reachMemory_20 : decode cX7_reachMemory 20 = .ok (.goto 23, 3) := by decide +kernel
theorem dX7_reachMemory_23 : decode cX7_reachMemory 23 = .ok (.aload_n 0, 1) := by decide +kernel
theorem dX7_reachMemory_24 : decode cX7_reachMemory 24 = .ok (.invokevirtual 117, 3) := by decide +kernel
theorem dX7_reachMemory_27 : decode cX7_reachMemory 27 = .ok (.ifCond .eq 16, 3) := by decide +kernel
theorem dX7_reachMemory_30 : decode cX7_reachMemory 30 = .ok (.aload_n 3, 1) := by decide +kernel
theorem dX7_reachMemory_31 : decode cX7_reachMemory 31 = .ok (.iload_n 1, 1) := by decide +kernel
theorem dX7_reachMemory_32 : decode cX7_reachMemory 32 = .ok (.aload_n 2, 1) := by decide +kernel
theorem dX7_reachMemory_33 : decode cX7_reachMemory 33 = .ok (.aload_n 0, 1) := by decide +kernel
theorem dX7_reachMemory_34 : decode cX7_reachMemory 34 = .ok (.invokevirtual 15, 3) := by decide +kernel
theorem dX7_reachMemory_37 : decode cX7_reachMemory 37 = .ok (.invokevirtual 24, 3) := by decide +kernel
theorem dX7_reachMemory_40 : decode cX7_reachMemory 40 = .ok (.invokevirtual 120, 3) := by decide +kernel
theorem dX7_reachMemory_43 : decode cX7_reachMemory 43 = .ok (.return_, 1) := by decide +kernel
set_option maxRecDepth 20000 in
theorem ggX7_shortSum_X1_j : GoodIn wsX7_shortSum wsX1_j := goodIn_r _ [6, 7, 45, 46, 47, 48, 49, 50, 51, 52, 53] (by decide +kernel) (by decide +kernel)
set_option maxRecDepth 20000 in
theorem gX7_shortSum_X1_j : GoodIn wsX7_shortSum (wsV RX7 21 RX1 yX1_j wsX1_j) := goodIn_app (goodIn_of _ (by decide +kernel)) ggX7_shortSum_X1_j
set_option maxRecDepth 20000 in
theorem ggX7_shortSum_X6_a : GoodIn wsX7_shortSum wsX6_a := goodIn_r _ [12, 13, 54] (by decide +kernel) (by decide +kernel)
set_option maxRecDepth 20000 in
theorem gX7_shortSum_X6_a : GoodIn wsX7_shortSum (wsV RX7 123 RX6 yX6_a wsX6_a) := goodIn_app (goodIn_of _ (by decide +kernel)) ggX7_shortSum_X6_a
set_option maxRecDepth 20000 in
theorem ggX7_shortSum_X6_b : GoodIn wsX7_shortSum wsX6_b := goodIn_r _ [17, 13, 54] (by decide +kernel) (by decide +kernel)
set_option maxRecDepth 20000 in
theorem gX7_shortSum_X6_b : GoodIn wsX7_shortSum (wsV RX7 74 RX6 yX6_b wsX6_b) := goodIn_app (goodIn_of _ (by decide +kernel)) ggX7_shortSum_X6_b
set_option maxRecDepth 20000 in
theorem ggX7_shortSum_X6_x : GoodIn wsX7_shortSum wsX6_x := goodIn_r _ [21, 13, 54] (by decide +kernel) (by decide +kernel)
set_option maxRecDepth 20000 in
theorem gX7_shortSum_X6_x : GoodIn wsX7_shortSum (wsV RX7 24 RX6 yX6_x wsX6_x) := goodIn_app (goodIn_of _ (by decide +kernel)) ggX7_shortSum_X6_x
set_option maxRecDepth 20000 in
theorem ggX7_shortSum_X1_k : GoodIn wsX7_shortSum wsX1_k := goodIn_r _ [25, 26, 45, 46, 47, 48, 49, 50, 51, 52, 53] (by decide +kernel) (by decide +kernel)
set_option maxRecDepth 20000 in
theorem gX7_shortSum_X1_k : GoodIn wsX7_shortSum (wsV RX7 30 RX1 yX1_k wsX1_k) := goodIn_app (goodIn_of _ (by decide +kernel)) ggX7_shortSum_X1_k
set_option maxRecDepth 20000 in
theorem ggX7_shortSum_X1_op : GoodIn wsX7_shortSum wsX1_op := goodIn_r _ [30, 31, 45, 46, 47, 48, 49, 50, 51, 52, 53] (by decide +kernel) (by decide +kernel)
set_option maxRecDepth 20000 in
theorem gX7_shortSum_X1_op : GoodIn wsX7_shortSum (wsV RX7 18 RX1 yX1_op wsX1_op) := goodIn_app (goodIn_of _ (by decide +kernel)) ggX7_shortSum_X1_op
set_option maxRecDepth 20000 in
theorem ggX7_shortSum_X1_constant : GoodIn wsX7_shortSum wsX1_constant := goodIn_r _ [35, 36, 45, 46, 47, 48, 49, 50, 51, 52, 53] (by decide +kernel) (by decide +kernel)
set_option maxRecDepth 20000 in
theorem gX7_shortSum_X1_constant : GoodIn wsX7_shortSum (wsV RX7 128 RX1 yX1_constant wsX1_constant) := goodIn_app (goodIn_of _ (by decide +kernel)) ggX7_shortSum_X1_constant
set_option maxRecDepth 20000 in
theorem ggX7_shortSum_X4_sum : GoodIn wsX7_shortSum wsX4_sum := goodIn_r _ [40] (by decide +kernel) (by decide +kernel)
set_option maxRecDepth 20000 in
theorem gX7_shortSum_X4_sum : GoodIn wsX7_shortSum (va_wsS RX7 90 yX4_sum wsX4_sum) := goodIn_app (goodIn_of _ (by decide +kernel)) ggX7_shortSum_X4_sum
set_option maxRecDepth 20000 in
theorem ggX7_shortSum_X4_difference : GoodIn wsX7_shortSum wsX4_difference := goodIn_r _ [43, 44, 38, 39, 40] (by decide +kernel) (by decide +kernel)
set_option maxRecDepth 20000 in
theorem gX7_shortSum_X4_difference : GoodIn wsX7_shortSum (va_wsS RX7 94 yX4_difference wsX4_difference) := goodIn_app (goodIn_of _ (by decide +kernel)) ggX7_shortSum_X4_difference
theorem dX7_shortSum_0 : decode cX7_shortSum 0 = .ok (.aload_n 1, 1) := by decide +kernel
theorem dX7_shortSum_1 : decode cX7_shortSum 1 = .ok (.aload_n 0, 1) := by decide +kernel
theorem dX7_shortSum_2 : decode cX7_shortSum 2 = .ok (.invokevirtual 21, 3) := by decide +kernel
theorem dX7_shortSum_5 : decode cX7_shortSum 5 = .ok (.invokevirtual 123, 3) := by decide +kernel
theorem dX7_shortSum_8 : decode cX7_shortSum 8 = .ok (.lstore_n 2, 1) := by decide +kernel
theorem dX7_shortSum_9 : decode cX7_shortSum 9 = .ok (.aload_n 1, 1) := by decide +kernel
theorem dX7_shortSum_10 : decode cX7_shortSum 10 = .ok (.aload_n 0, 1) := by decide +kernel
theorem dX7_shortSum_11 : decode cX7_shortSum 11 = .ok (.invokevirtual 21, 3) := by decide +kernel
theorem dX7_shortSum_14 : decode cX7_shortSum 14 = .ok (.invokevirtual 74, 3) := by decide +kernel
theorem dX7_shortSum_17 : decode cX7_shortSum 17 = .ok (.lstore 4, 2) := by decide +kernel
theorem dX7_shortSum_19 : decode cX7_shortSum 19 = .ok (.aload_n 1, 1) := by decide +kernel
theorem dX7_shortSum_20 : decode cX7_shortSum 20 = .ok (.aload_n 0, 1) := by decide +kernel
theorem dX7_shortSum_21 : decode cX7_shortSum 21 = .ok (.invokevirtual 21, 3) := by decide +kernel
theorem dX7_shortSum_24 : decode cX7_shortSum 24 = .ok (.invokevirtual 24, 3) := by decide +kernel
theorem dX7_shortSum_27 : decode cX7_shortSum 27 = .ok (.ldc2_w 126, 3) := by decide +kernel
theorem dX7_shortSum_30 : decode cX7_shortSum 30 = .ok (.land, 1) := by decide +kernel
theorem dX7_shortSum_31 : decode cX7_shortSum 31 = .ok (.lstore 6, 2) := by decide +kernel
theorem dX7_shortSum_33 : decode cX7_shortSum 33 = .ok (.aload_n 1, 1) := by decide +kernel
theorem dX7_shortSum_34 : decode cX7_shortSum 34 = .ok (.aload_n 0, 1) := by decide +kernel
theorem dX7_shortSum_35 : decode cX7_shortSum 35 = .ok (.invokevirtual 30, 3) := by decide +kernel
theorem dX7_shortSum_38 : decode cX7_shortSum 38 = .ok (.invokevirtual 74, 3) := by decide +kernel
theorem dX7_shortSum_41 : decode cX7_shortSum 41 = .ok (.lstore 8, 2) := by decide +kernel
theorem dX7_shortSum_43 : decode cX7_shortSum 43 = .ok (.aload_n 0, 1) := by decide +kernel
theorem dX7_shortSum_44 : decode cX7_shortSum 44 = .ok (.invokevirtual 18, 3) := by decide +kernel
theorem dX7_shortSum_47 : decode cX7_shortSum 47 = .ok (.bipush 7, 2) := by decide +kernel
theorem dX7_shortSum_49 : decode cX7_shortSum 49 = .ok (.iand, 1) := by decide +kernel
theorem dX7_shortSum_50 : decode cX7_shortSum 50 = .ok (.tableswitch 125 0 6 #[42, 55, 69, 83, 94, 104, 114], 42) := by decide +kernel
theorem dX7_shortSum_92 : decode cX7_shortSum 92 = .ok (.lload_n 2, 1) := by decide +kernel
theorem dX7_shortSum_93 : decode cX7_shortSum 93 = .ok (.aload_n 0, 1) := by decide +kernel
theorem dX7_shortSum_94 : decode cX7_shortSum 94 = .ok (.invokevirtual 128, 3) := by decide +kernel
theorem dX7_shortSum_97 : decode cX7_shortSum 97 = .ok (.i2l, 1) := by decide +kernel
theorem dX7_shortSum_98 : decode cX7_shortSum 98 = .ok (.ldc2_w 126, 3) := by decide +kernel
theorem dX7_shortSum_101 : decode cX7_shortSum 101 = .ok (.invokestatic 90, 3) := by decide +kernel
theorem dX7_shortSum_104 : decode cX7_shortSum 104 = .ok (.lreturn, 1) := by decide +kernel
theorem dX7_shortSum_105 : decode cX7_shortSum 105 = .ok (.lload 4, 2) := by decide +kernel
theorem dX7_shortSum_107 : decode cX7_shortSum 107 = .ok (.aload_n 0, 1) := by decide +kernel
theorem dX7_shortSum_108 : decode cX7_shortSum 108 = .ok (.invokevirtual 128, 3) := by decide +kernel
theorem dX7_shortSum_111 : decode cX7_shortSum 111 = .ok (.i2l, 1) := by decide +kernel
theorem dX7_shortSum_112 : decode cX7_shortSum 112 = .ok (.ldc2_w 126, 3) := by decide +kernel
theorem dX7_shortSum_115 : decode cX7_shortSum 115 = .ok (.invokestatic 90, 3) := by decide +kernel
theorem dX7_shortSum_118 : decode cX7_shortSum 118 = .ok (.lreturn, 1) := by decide +kernel
theorem dX7_shortSum_119 : decode cX7_shortSum 119 = .ok (.lload 6, 2) := by decide +kernel
theorem dX7_shortSum_121 : decode cX7_shortSum 121 = .ok (.aload_n 0, 1) := by decide +kernel
theorem dX7_shortSum_122 : decode cX7_shortSum 122 = .ok (.invokevirtual 128, 3) := by decide +kernel
theorem dX7_shortSum_125 : decode cX7_shortSum 125 = .ok (.i2l, 1) := by decide +kernel
theorem dX7_shortSum_126 : decode cX7_shortSum 126 = .ok (.ldc2_w 126, 3) := by decide +kernel
theorem dX7_shortSum_129 : decode cX7_shortSum 129 = .ok (.invokestatic 90, 3) := by decide +kernel
theorem dX7_shortSum_132 : decode cX7_shortSum 132 = .ok (.lreturn, 1) := by decide +kernel
theorem dX7_shortSum_133 : decode cX7_shortSum 133 = .ok (.lload 6, 2) := by decide +kernel
theorem dX7_shortSum_135 : decode cX7_shortSum 135 = .ok (.lload 8, 2) := by decide +kernel
theorem dX7_shortSum_137 : decode cX7_shortSum 137 = .ok (.ldc2_w 126, 3) := by decide +kernel
theorem dX7_shortSum_140 : decode cX7_shortSum 140 = .ok (.invokestatic 90, 3) := by decide +kernel
theorem dX7_shortSum_143 : decode cX7_shortSum 143 = .ok (.lreturn, 1) := by decide +kernel
theorem dX7_shortSum_144 : decode cX7_shortSum 144 = .ok (.lload_n 2, 1) := by decide +kernel
theorem dX7_shortSum_145 : decode cX7_shortSum 145 = .ok (.lload 8, 2) := by decide +kernel
theorem dX7_shortSum_147 : decode cX7_shortSum 147 = .ok (.ldc2_w 126, 3) := by decide +kernel
theorem dX7_shortSum_150 : decode cX7_shortSum 150 = .ok (.invokestatic 90, 3) := by decide +kernel
theorem dX7_shortSum_153 : decode cX7_shortSum 153 = .ok (.lreturn, 1) := by decide +kernel
theorem dX7_shortSum_154 : decode cX7_shortSum 154 = .ok (.lload_n 2, 1) := by decide +kernel
theorem dX7_shortSum_155 : decode cX7_shortSum 155 = .ok (.lload 8, 2) := by decide +kernel
theorem dX7_shortSum_157 : decode cX7_shortSum 157 = .ok (.ldc2_w 126, 3) := by decide +kernel
theorem dX7_shortSum_160 : decode cX7_shortSum 160 = .ok (.invokestatic 94, 3) := by decide +kernel
theorem dX7_shortSum_163 : decode cX7_shortSum 163 = .ok (.lreturn, 1) := by decide +kernel
theorem dX7_shortSum_164 : decode cX7_shortSum 164 = .ok (.lload 4, 2) := by decide +kernel
theorem dX7_shortSum_166 : decode cX7_shortSum 166 = .ok (.lload 8, 2) := by decide +kernel
theorem dX7_shortSum_168 : decode cX7_shortSum 168 = .ok (.ldc2_w 126, 3) := by decide +kernel
theorem dX7_shortSum_171 : decode cX7_shortSum 171 = .ok (.invokestatic 90, 3) := by decide +kernel
theorem dX7_shortSum_174 : decode cX7_shortSum 174 = .ok (.lreturn, 1) := by decide +kernel
theorem dX7_shortSum_175 : decode cX7_shortSum 175 = .ok (.lload 4, 2) := by decide +kernel
theorem dX7_shortSum_177 : decode cX7_shortSum 177 = .ok (.lload 8, 2) := by decide +kernel
theorem dX7_shortSum_179 : decode cX7_shortSum 179 = .ok (.ldc2_w 126, 3) := by decide +kernel
theorem dX7_shortSum_182 : decode cX7_shortSum 182 = .ok (.invokestatic 94, 3) := by decide +kernel
theorem dX7_shortSum_185 : decode cX7_shortSum 185 = .ok (.lreturn, 1) := by decide +kernel
set_option maxRecDepth 20000 in
theorem ggX8_init_X3_init : GoodIn wsX8_init wsX3_init := goodIn_r _ [24, 25, 2, 3, 26, 27, 28, 54, 55] (by decide +kernel) (by decide +kernel)
set_option maxRecDepth 20000 in
theorem gX8_init_X3_init_n9 : GoodIn wsX8_init (wsX3_init) := ggX8_init_X3_init
set_option maxRecDepth 20000 in
theorem ggX8_init_X6_init : GoodIn wsX8_init wsX6_init := goodIn_r _ [30, 31, 2, 3, 26, 32, 63] (by decide +kernel) (by decide +kernel)
set_option maxRecDepth 20000 in
theorem gX8_init_X6_init_n18 : GoodIn wsX8_init (wsX6_init) := ggX8_init_X6_init
set_option maxRecDepth 20000 in
theorem ggX8_init_X0_init : GoodIn wsX8_init wsX0_init := goodIn_r _ [34, 35, 2, 3, 36, 37, 26, 38, 39, 40, 41, 64, 65, 66, 67, 68, 69, 70, 71, 72] (by decide +kernel) (by decide +kernel)
set_option maxRecDepth 20000 in
theorem gX8_init_X0_init_n25 : GoodIn wsX8_init (wsX0_init) := ggX8_init_X0_init
set_option maxRecDepth 20000 in
theorem ggX8_init_X1_init : GoodIn wsX8_init wsX1_init := goodIn_r _ [43, 44, 2, 3, 45, 46, 47, 48, 49, 50, 51, 52, 36, 53, 82, 83, 73, 74, 75, 76, 77, 78, 79, 80, 81] (by decide +kernel) (by decide +kernel)
set_option maxRecDepth 20000 in
theorem gX8_init_X1_init_n32 : GoodIn wsX8_init (wsX1_init) := ggX8_init_X1_init
theorem dX8_init_0 : decode cX8_init 0 = .ok (.aload_n 0, 1) := by decide +kernel
theorem dX8_init_1 : decode cX8_init 1 = .ok (.invokespecial 1, 3) := by decide +kernel
theorem dX8_init_4 : decode cX8_init 4 = .ok (.aload_n 0, 1) := by decide +kernel
theorem dX8_init_5 : decode cX8_init 5 = .ok (.new 7, 3) := by decide +kernel
theorem dX8_init_8 : decode cX8_init 8 = .ok (.dup, 1) := by decide +kernel
theorem dX8_init_9 : decode cX8_init 9 = .ok (.invokespecial 9, 3) := by decide +kernel
theorem dX8_init_12 : decode cX8_init 12 = .ok (.putfield 10, 3) := by decide +kernel
theorem dX8_init_15 : decode cX8_init 15 = .ok (.aload_n 0, 1) := by decide +kernel
theorem dX8_init_16 : decode cX8_init 16 = .ok (.new 16, 3) := by decide +kernel
theorem dX8_init_19 : decode cX8_init 19 = .ok (.dup, 1) := by decide +kernel
theorem dX8_init_20 : decode cX8_init 20 = .ok (.invokespecial 18, 3) := by decide +kernel
theorem dX8_init_23 : decode cX8_init 23 = .ok (.putfield 19, 3) := by decide +kernel
theorem dX8_init_26 : decode cX8_init 26 = .ok (.aload_n 0, 1) := by decide +kernel
theorem dX8_init_27 : decode cX8_init 27 = .ok (.new 23, 3) := by decide +kernel
theorem dX8_init_30 : decode cX8_init 30 = .ok (.dup, 1) := by decide +kernel
theorem dX8_init_31 : decode cX8_init 31 = .ok (.invokespecial 25, 3) := by decide +kernel
theorem dX8_init_34 : decode cX8_init 34 = .ok (.putfield 26, 3) := by decide +kernel
theorem dX8_init_37 : decode cX8_init 37 = .ok (.aload_n 0, 1) := by decide +kernel
theorem dX8_init_38 : decode cX8_init 38 = .ok (.new 30, 3) := by decide +kernel
theorem dX8_init_41 : decode cX8_init 41 = .ok (.dup, 1) := by decide +kernel
theorem dX8_init_42 : decode cX8_init 42 = .ok (.invokespecial 32, 3) := by decide +kernel
theorem dX8_init_45 : decode cX8_init 45 = .ok (.putfield 33, 3) := by decide +kernel
theorem dX8_init_48 : decode cX8_init 48 = .ok (.aload_n 0, 1) := by decide +kernel
theorem dX8_init_49 : decode cX8_init 49 = .ok (.iconst 0, 1) := by decide +kernel
theorem dX8_init_50 : decode cX8_init 50 = .ok (.putfield 37, 3) := by decide +kernel
theorem dX8_init_53 : decode cX8_init 53 = .ok (.aload_n 0, 1) := by decide +kernel
theorem dX8_init_54 : decode cX8_init 54 = .ok (.iconst 0, 1) := by decide +kernel
theorem dX8_init_55 : decode cX8_init 55 = .ok (.putfield 41, 3) := by decide +kernel
theorem dX8_init_58 : decode cX8_init 58 = .ok (.aload_n 0, 1) := by decide +kernel
theorem dX8_init_59 : decode cX8_init 59 = .ok (.iconst 3, 1) := by decide +kernel
theorem dX8_init_60 : decode cX8_init 60 = .ok (.putfield 44, 3) := by decide +kernel
theorem dX8_init_63 : decode cX8_init 63 = .ok (.return_, 1) := by decide +kernel
set_option maxRecDepth 20000 in
theorem ggX8_write_X3_holds : GoodIn wsX8_write wsX3_holds := goodIn_r _ [7] (by decide +kernel) (by decide +kernel)
set_option maxRecDepth 20000 in
theorem gX8_write_X3_holds : GoodIn wsX8_write (va_wsS RX8 47 yX3_holds wsX3_holds) := goodIn_app (goodIn_of _ (by decide +kernel)) ggX8_write_X3_holds
set_option maxRecDepth 20000 in
theorem ggX8_write_X3_load : GoodIn wsX8_write wsX3_load := goodIn_r _ [11, 12, 13, 5, 6, 7, 26, 27] (by decide +kernel) (by decide +kernel)
set_option maxRecDepth 20000 in
theorem gX8_write_X3_load : GoodIn wsX8_write (wsV RX8 54 RX3 yX3_load wsX3_load) := goodIn_app (goodIn_of _ (by decide +kernel)) ggX8_write_X3_load
set_option maxRecDepth 20000 in
theorem ggX8_write_X3_store : GoodIn wsX8_write wsX3_store := goodIn_r _ [17, 12, 18, 13, 5, 6, 7, 26, 27] (by decide +kernel) (by decide +kernel)
set_option maxRecDepth 20000 in
theorem gX8_write_X3_store : GoodIn wsX8_write (wsV RX8 58 RX3 yX3_store wsX3_store) := goodIn_app (goodIn_of _ (by decide +kernel)) ggX8_write_X3_store
theorem dX8_write_0 : decode cX8_write 0 = .ok (.iload_n 1, 1) := by decide +kernel
theorem dX8_write_1 : decode cX8_write 1 = .ok (.invokestatic 47, 3) := by decide +kernel
theorem dX8_write_4 : decode cX8_write 4 = .ok (.ifCond .ne 11, 3) := by decide +kernel
theorem dX8_write_7 : decode cX8_write 7 = .ok (.new 51, 3) := by decide +kernel
theorem dX8_write_10 : decode cX8_write 10 = .ok (.dup, 1) := by decide +kernel
theorem dX8_write_11 : decode cX8_write 11 = .ok (.invokespecial 53, 3) := by decide +kernel
theorem dX8_write_14 : decode cX8_write 14 = .ok (.athrow, 1) := by decide +kernel
theorem dX8_write_15 : decode cX8_write 15 = .ok (.aload_n 0, 1) := by decide +kernel
theorem dX8_write_16 : decode cX8_write 16 = .ok (.getfield 10, 3) := by decide +kernel
theorem dX8_write_19 : decode cX8_write 19 = .ok (.iload_n 1, 1) := by decide +kernel
theorem dX8_write_20 : decode cX8_write 20 = .ok (.invokevirtual 54, 3) := by decide +kernel
theorem dX8_write_23 : decode cX8_write 23 = .ok (.lstore 4, 2) := by decide +kernel
theorem dX8_write_25 : decode cX8_write 25 = .ok (.aload_n 0, 1) := by decide +kernel
theorem dX8_write_26 : decode cX8_write 26 = .ok (.getfield 10, 3) := by decide +kernel
theorem dX8_write_29 : decode cX8_write 29 = .ok (.iload_n 1, 1) := by decide +kernel
theorem dX8_write_30 : decode cX8_write 30 = .ok (.lload_n 2, 1) := by decide +kernel
theorem dX8_write_31 : decode cX8_write 31 = .ok (.invokevirtual 58, 3) := by decide +kernel
theorem dX8_write_34 : decode cX8_write 34 = .ok (.lload 4, 2) := by decide +kernel
theorem dX8_write_36 : decode cX8_write 36 = .ok (.lreturn, 1) := by decide +kernel
set_option maxRecDepth 20000 in
theorem ggX8_read_X3_holds : GoodIn wsX8_read wsX3_holds := goodIn_r _ [7] (by decide +kernel) (by decide +kernel)
set_option maxRecDepth 20000 in
theorem gX8_read_X3_holds : GoodIn wsX8_read (va_wsS RX8 47 yX3_holds wsX3_holds) := goodIn_app (goodIn_of _ (by decide +kernel)) ggX8_read_X3_holds
set_option maxRecDepth 20000 in
theorem ggX8_read_X3_load : GoodIn wsX8_read wsX3_load := goodIn_r _ [11, 12, 13, 5, 6, 7, 21, 22] (by decide +kernel) (by decide +kernel)
set_option maxRecDepth 20000 in
theorem gX8_read_X3_load : GoodIn wsX8_read (wsV RX8 54 RX3 yX3_load wsX3_load) := goodIn_app (goodIn_of _ (by decide +kernel)) ggX8_read_X3_load
theorem dX8_read_0 : decode cX8_read 0 = .ok (.iload_n 1, 1) := by decide +kernel
theorem dX8_read_1 : decode cX8_read 1 = .ok (.invokestatic 47, 3) := by decide +kernel
theorem dX8_read_4 : decode cX8_read 4 = .ok (.ifCond .ne 11, 3) := by decide +kernel
theorem dX8_read_7 : decode cX8_read 7 = .ok (.new 51, 3) := by decide +kernel
theorem dX8_read_10 : decode cX8_read 10 = .ok (.dup, 1) := by decide +kernel
theorem dX8_read_11 : decode cX8_read 11 = .ok (.invokespecial 53, 3) := by decide +kernel
theorem dX8_read_14 : decode cX8_read 14 = .ok (.athrow, 1) := by decide +kernel
theorem dX8_read_15 : decode cX8_read 15 = .ok (.aload_n 0, 1) := by decide +kernel
theorem dX8_read_16 : decode cX8_read 16 = .ok (.getfield 10, 3) := by decide +kernel
theorem dX8_read_19 : decode cX8_read 19 = .ok (.iload_n 1, 1) := by decide +kernel
theorem dX8_read_20 : decode cX8_read 20 = .ok (.invokevirtual 54, 3) := by decide +kernel
theorem dX8_read_23 : decode cX8_read 23 = .ok (.lreturn, 1) := by decide +kernel
set_option maxRecDepth 20000 in
theorem ggX8_register_X6_get : GoodIn wsX8_register wsX6_get := goodIn_r _ [8, 9, 17] (by decide +kernel) (by decide +kernel)
set_option maxRecDepth 20000 in
theorem gX8_register_X6_get : GoodIn wsX8_register (wsV RX8 62 RX6 yX6_get wsX6_get) := goodIn_app (goodIn_of _ (by decide +kernel)) ggX8_register_X6_get
theorem dX8_register_0 : decode cX8_register 0 = .ok (.iload_n 1, 1) := by decide +kernel
theorem dX8_register_1 : decode cX8_register 1 = .ok (.ifCond .lt 9, 3) := by decide +kernel
theorem dX8_register_4 : decode cX8_register 4 = .ok (.iload_n 1, 1) := by decide +kernel
theorem dX8_register_5 : decode cX8_register 5 = .ok (.bipush 24, 2) := by decide +kernel
theorem dX8_register_7 : decode cX8_register 7 = .ok (.if_icmp .lt 11, 3) := by decide +kernel
theorem dX8_register_10 : decode cX8_register 10 = .ok (.new 51, 3) := by decide +kernel
theorem dX8_register_13 : decode cX8_register 13 = .ok (.dup, 1) := by decide +kernel
theorem dX8_register_14 : decode cX8_register 14 = .ok (.invokespecial 53, 3) := by decide +kernel
theorem dX8_register_17 : decode cX8_register 17 = .ok (.athrow, 1) := by decide +kernel
theorem dX8_register_18 : decode cX8_register 18 = .ok (.aload_n 0, 1) := by decide +kernel
theorem dX8_register_19 : decode cX8_register 19 = .ok (.getfield 19, 3) := by decide +kernel
theorem dX8_register_22 : decode cX8_register 22 = .ok (.iload_n 1, 1) := by decide +kernel
theorem dX8_register_23 : decode cX8_register 23 = .ok (.invokevirtual 62, 3) := by decide +kernel
theorem dX8_register_26 : decode cX8_register 26 = .ok (.lreturn, 1) := by decide +kernel
set_option maxRecDepth 20000 in
theorem ggX8_put_X6_set : GoodIn wsX8_put wsX6_set := goodIn_r _ [8, 9, 10, 11, 19] (by decide +kernel) (by decide +kernel)
set_option maxRecDepth 20000 in
theorem gX8_put_X6_set : GoodIn wsX8_put (wsV RX8 65 RX6 yX6_set wsX6_set) := goodIn_app (goodIn_of _ (by decide +kernel)) ggX8_put_X6_set
theorem dX8_put_0 : decode cX8_put 0 = .ok (.iload_n 1, 1) := by decide +kernel
theorem dX8_put_1 : decode cX8_put 1 = .ok (.ifCond .lt 9, 3) := by decide +kernel
theorem dX8_put_4 : decode cX8_put 4 = .ok (.iload_n 1, 1) := by decide +kernel
theorem dX8_put_5 : decode cX8_put 5 = .ok (.bipush 24, 2) := by decide +kernel
theorem dX8_put_7 : decode cX8_put 7 = .ok (.if_icmp .lt 11, 3) := by decide +kernel
theorem dX8_put_10 : decode cX8_put 10 = .ok (.new 51, 3) := by decide +kernel
theorem dX8_put_13 : decode cX8_put 13 = .ok (.dup, 1) := by decide +kernel
theorem dX8_put_14 : decode cX8_put 14 = .ok (.invokespecial 53, 3) := by decide +kernel
theorem dX8_put_17 : decode cX8_put 17 = .ok (.athrow, 1) := by decide +kernel
theorem dX8_put_18 : decode cX8_put 18 = .ok (.aload_n 0, 1) := by decide +kernel
theorem dX8_put_19 : decode cX8_put 19 = .ok (.getfield 19, 3) := by decide +kernel
theorem dX8_put_22 : decode cX8_put 22 = .ok (.iload_n 1, 1) := by decide +kernel
theorem dX8_put_23 : decode cX8_put 23 = .ok (.lload_n 2, 1) := by decide +kernel
theorem dX8_put_24 : decode cX8_put 24 = .ok (.invokevirtual 65, 3) := by decide +kernel
theorem dX8_put_27 : decode cX8_put 27 = .ok (.return_, 1) := by decide +kernel
set_option maxRecDepth 20000 in
theorem ggX8_start_X3_holds : GoodIn wsX8_start wsX3_holds := goodIn_r _ [7] (by decide +kernel) (by decide +kernel)
set_option maxRecDepth 20000 in
theorem gX8_start_X3_holds : GoodIn wsX8_start (va_wsS RX8 47 yX3_holds wsX3_holds) := goodIn_app (goodIn_of _ (by decide +kernel)) ggX8_start_X3_holds
set_option maxRecDepth 20000 in
theorem ggX8_start_X8_goOnAt : GoodIn wsX8_start wsX8_goOnAt := goodIn_r _ [12, 13, 14, 3, 4, 5, 6, 7, 15, 16, 17, 18, 19, 20, 21] (by decide +kernel) (by decide +kernel)
set_option maxRecDepth 20000 in
theorem gX8_start_X8_goOnAt : GoodIn wsX8_start (wsV RX8 71 RX8 yX8_goOnAt wsX8_goOnAt) := goodIn_app (goodIn_of _ (by decide +kernel)) ggX8_start_X8_goOnAt
theorem dX8_start_0 : decode cX8_start 0 = .ok (.iload_n 1, 1) := by decide +kernel
theorem dX8_start_1 : decode cX8_start 1 = .ok (.invokestatic 47, 3) := by decide +kernel
theorem dX8_start_4 : decode cX8_start 4 = .ok (.ifCond .ne 11, 3) := by decide +kernel
theorem dX8_start_7 : decode cX8_start 7 = .ok (.new 68, 3) := by decide +kernel
theorem dX8_start_10 : decode cX8_start 10 = .ok (.dup, 1) := by decide +kernel
theorem dX8_start_11 : decode cX8_start 11 = .ok (.invokespecial 70, 3) := by decide +kernel
theorem dX8_start_14 : decode cX8_start 14 = .ok (.athrow, 1) := by decide +kernel
theorem dX8_start_15 : decode cX8_start 15 = .ok (.aload_n 0, 1) := by decide +kernel
theorem dX8_start_16 : decode cX8_start 16 = .ok (.iconst 3, 1) := by decide +kernel
theorem dX8_start_17 : decode cX8_start 17 = .ok (.putfield 44, 3) := by decide +kernel
theorem dX8_start_20 : decode cX8_start 20 = .ok (.aload_n 0, 1) := by decide +kernel
theorem dX8_start_21 : decode cX8_start 21 = .ok (.iload_n 1, 1) := by decide +kernel
theorem dX8_start_22 : decode cX8_start 22 = .ok (.invokevirtual 71, 3) := by decide +kernel
theorem dX8_start_25 : decode cX8_start 25 = .ok (.return_, 1) := by decide +kernel
set_option maxRecDepth 20000 in
theorem ggX8_run_X3_keepProgram : GoodIn wsX8_run wsX3_keepProgram := goodIn_r _ [10, 11, 12, 13, 14, 15, 16, 394, 395] (by decide +kernel) (by decide +kernel)
set_option maxRecDepth 20000 in
theorem gX8_run_X3_keepProgram : GoodIn wsX8_run (wsV RX8 75 RX3 yX3_keepProgram wsX3_keepProgram) := goodIn_app (goodIn_of _ (by decide +kernel)) ggX8_run_X3_keepProgram
set_option maxRecDepth 20000 in
theorem ggX8_run_X0_empty : GoodIn wsX8_run wsX0_empty := goodIn_r _ [21, 22, 23, 24, 25, 26, 27, 28, 29, 30, 31, 396, 397, 398, 399, 400, 401, 402, 403, 404] (by decide +kernel) (by decide +kernel)
set_option maxRecDepth 20000 in
theorem gX8_run_X0_empty : GoodIn wsX8_run (wsV RX8 78 RX0 yX0_empty wsX0_empty) := goodIn_app (goodIn_of _ (by decide +kernel)) ggX8_run_X0_empty
set_option maxRecDepth 20000 in
theorem ggX8_run_X8_takeNext : GoodIn wsX8_run wsX8_takeNext := goodIn_r _ [36, 37, 3, 38, 39, 5, 4, 40, 41, 42, 43, 9, 44, 12, 45, 46, 47, 48, 49, 50, 51, 52, 53, 54, 55, 56, 57, 58, 59, 60, 61, 62, 63, 64, 65, 66, 67, 68, 69, 70, 71, 72, 73, 74, 75, 76, 77, 78, 79, 80, 81, 82, 83, 84, 85, 86, 87, 88, 89, 90, 91, 92, 93, 94, 95, 96, 97, 98, 99, 100, 101, 102, 103, 104, 105, 106, 107, 108, 109, 110, 111, 112, 113, 114, 115, 116, 117, 118, 119, 120, 121, 122, 123, 124, 125, 126, 127, 128, 129, 130, 131, 132, 133, 134, 135, 136, 35, 137, 138, 139, 140, 141, 142, 143, 144, 145, 146, 147, 148, 149, 150, 151, 152, 153, 154, 155, 156, 157, 158, 159, 160, 161, 162, 163, 164, 165, 166, 167, 168, 169, 170, 171, 172, 173, 174, 175, 176, 177, 178, 179, 180, 181, 182, 183, 184, 185, 186, 187, 188, 189, 190, 191, 192, 20, 193, 23, 25, 26, 194, 195, 196, 197, 198, 199, 200, 201, 202, 203, 204, 205, 206, 207, 208, 209, 210, 211, 212, 213, 214, 215, 216, 217, 27, 218, 219, 220, 221, 222, 223, 224, 225, 226, 227, 228, 229, 230, 231, 232, 233, 234, 235, 236, 237, 238, 239, 240, 241, 242, 243, 244, 245, 246, 247, 248, 249, 250, 251, 252, 253, 11, 254, 255, 256, 257, 258, 259, 260, 261, 262, 263, 264, 265, 22, 266, 267, 268, 269, 270, 271, 272, 273, 274, 275, 276, 277, 24, 278, 279, 280, 281, 282, 283, 284, 285, 286, 287, 288, 289, 290, 291, 292, 293, 294, 295, 296, 297, 298, 299, 300, 301, 302, 303, 304, 305, 306, 307, 308, 309, 310, 311, 312, 313, 314, 315, 316, 317, 318, 319, 320, 321, 322, 323, 324, 325, 326, 327, 328, 329, 330, 331, 332, 333, 334, 335, 336, 337, 338, 339, 340, 341, 342, 343, 344, 345, 346, 347, 348, 349, 350, 351, 352, 353, 354, 355, 356, 357, 358, 359, 360, 361, 362, 363, 364, 365, 366, 367, 368, 369, 370, 371, 372, 373, 374, 375, 376, 377, 378, 379, 380, 381, 387, 388, 389, 390, 391, 392, 393, 394, 395, 405, 406, 407, 408, 409, 410, 411, 412, 413, 414, 415, 416, 396, 397, 398, 399, 400, 401, 402, 403, 404] (by decide +kernel) (by decide +kernel)
set_option maxRecDepth 20000 in
theorem gX8_run_X8_takeNext : GoodIn wsX8_run (wsV RX8 81 RX8 yX8_takeNext wsX8_takeNext) := goodIn_app (goodIn_of _ (by decide +kernel)) ggX8_run_X8_takeNext
set_option maxRecDepth 20000 in
theorem ggX8_run_X0_countCycles : GoodIn wsX8_run wsX0_countCycles := goodIn_r _ [385, 386, 27, 396, 397, 398, 399, 400, 401, 402, 403, 404] (by decide +kernel) (by decide +kernel)
set_option maxRecDepth 20000 in
theorem gX8_run_X0_countCycles : GoodIn wsX8_run (wsV RX8 85 RX0 yX0_countCycles wsX0_countCycles) := goodIn_app (goodIn_of _ (by decide +kernel)) ggX8_run_X0_countCycles
theorem dX8_run_0 : decode cX8_run 0 = .ok (.iload_n 1, 1) := by decide +kernel
theorem dX8_run_1 : decode cX8_run 1 = .ok (.ifCond .lt 10, 3) := by decide +kernel
theorem dX8_run_4 : decode cX8_run 4 = .ok (.iload_n 1, 1) := by decide +kernel
theorem dX8_run_5 : decode cX8_run 5 = .ok (.sipush 2000, 3) := by decide +kernel
theorem dX8_run_8 : decode cX8_run 8 = .ok (.if_icmp .le 11, 3) := by decide +kernel
theorem dX8_run_11 : decode cX8_run 11 = .ok (.new 68, 3) := by decide +kernel
theorem dX8_run_14 : decode cX8_run 14 = .ok (.dup, 1) := by decide +kernel
theorem dX8_run_15 : decode cX8_run 15 = .ok (.invokespecial 70, 3) := by decide +kernel
theorem dX8_run_18 : decode cX8_run 18 = .ok (.athrow, 1) := by decide +kernel
theorem dX8_run_19 : decode cX8_run 19 = .ok (.aload_n 0, 1) := by decide +kernel
theorem dX8_run_20 : decode cX8_run 20 = .ok (.getfield 10, 3) := by decide +kernel
theorem dX8_run_23 : decode cX8_run 23 = .ok (.invokevirtual 75, 3) := by decide +kernel
theorem dX8_run_26 : decode cX8_run 26 = .ok (.aload_n 0, 1) := by decide +kernel
theorem dX8_run_27 : decode cX8_run 27 = .ok (.getfield 26, 3) := by decide +kernel
theorem dX8_run_30 : decode cX8_run 30 = .ok (.invokevirtual 78, 3) := by decide +kernel
theorem dX8_run_33 : decode cX8_run 33 = .ok (.iconst 0, 1) := by decide +kernel
theorem dX8_run_34 : decode cX8_run 34 = .ok (.istore_n 2, 1) := by decide +kernel
theorem dX8_run_35 : decode cX8_run 35 = .ok (.iconst 0, 1) := by decide +kernel
theorem dX8_run_36 : decode cX8_run 36 = .ok (.istore_n 3, 1) := by decide +kernel
theorem dX8_run_37 : decode cX8_run 37 = .ok (.iload_n 3, 1) := by decide +kernel
theorem dX8_run_38 : decode cX8_run 38 = .ok (.iload_n 1, 1) := by decide +kernel
theorem dX8_run_39 : decode cX8_run 39 = .ok (.if_icmp .ge 27, 3) := by decide +kernel
theorem dX8_run_42 : decode cX8_run 42 = .ok (.aload_n 0, 1) := by decide +kernel
theorem dX8_run_43 : decode cX8_run 43 = .ok (.getfield 44, 3) := by decide +kernel
theorem dX8_run_46 : decode cX8_run 46 = .ok (.iconst 3, 1) := by decide +kernel
theorem dX8_run_47 : decode cX8_run 47 = .ok (.if_icmp .ne 19, 3) := by decide +kernel
theorem dX8_run_50 : decode cX8_run 50 = .ok (.aload_n 0, 1) := by decide +kernel
theorem dX8_run_51 : decode cX8_run 51 = .ok (.invokevirtual 81, 3) := by decide +kernel
theorem dX8_run_54 : decode cX8_run 54 = .ok (.ifCond .eq 6, 3) := by decide +kernel
theorem dX8_run_57 : decode cX8_run 57 = .ok (.iinc 2 1, 3) := by decide +kernel
theorem dX8_run_60 : decode cX8_run 60 = .ok (.iinc 3 1, 3) := by decide +kernel
theorem dX8_run_63 : decode cX8_run 63 = .ok (.goto (-26), 3) := by decide +kernel
theorem dX8_run_66 : decode cX8_run 66 = .ok (.aload_n 0, 1) := by decide +kernel
theorem dX8_run_67 : decode cX8_run 67 = .ok (.getfield 26, 3) := by decide +kernel
theorem dX8_run_70 : decode cX8_run 70 = .ok (.invokevirtual 85, 3) := by decide +kernel
theorem dX8_run_73 : decode cX8_run 73 = .ok (.iload_n 2, 1) := by decide +kernel
theorem dX8_run_74 : decode cX8_run 74 = .ok (.ireturn, 1) := by decide +kernel
theorem dX8_stopped_0 : decode cX8_stopped 0 = .ok (.aload_n 0, 1) := by decide +kernel
theorem dX8_stopped_1 : decode cX8_stopped 1 = .ok (.getfield 44, 3) := by decide +kernel
theorem dX8_stopped_4 : decode cX8_stopped 4 = .ok (.ireturn, 1) := by decide +kernel
theorem dX8_place_0 : decode cX8_place 0 = .ok (.iconst 4, 1) := by decide +kernel
theorem dX8_place_1 : decode cX8_place 1 = .ok (.aload_n 0, 1) := by decide +kernel
theorem dX8_place_2 : decode cX8_place 2 = .ok (.getfield 37, 3) := by decide +kernel
theorem dX8_place_5 : decode cX8_place 5 = .ok (.imul, 1) := by decide +kernel
theorem dX8_place_6 : decode cX8_place 6 = .ok (.aload_n 0, 1) := by decide +kernel
theorem dX8_place_7 : decode cX8_place 7 = .ok (.getfield 41, 3) := by decide +kernel
theorem dX8_place_10 : decode cX8_place 10 = .ok (.iadd, 1) := by decide +kernel
theorem dX8_place_11 : decode cX8_place 11 = .ok (.ireturn, 1) := by decide +kernel
set_option maxRecDepth 20000 in
theorem ggX8_cycles_X0_cyclesCounted : GoodIn wsX8_cycles wsX0_cyclesCounted := goodIn_r _ [6, 7, 15, 16, 17, 18, 19, 20, 21, 22, 23] (by decide +kernel) (by decide +kernel)
set_option maxRecDepth 20000 in
theorem gX8_cycles_X0_cyclesCounted : GoodIn wsX8_cycles (wsV RX8 88 RX0 yX0_cyclesCounted wsX0_cyclesCounted) := goodIn_app (goodIn_of _ (by decide +kernel)) ggX8_cycles_X0_cyclesCounted
theorem dX8_cycles_0 : decode cX8_cycles 0 = .ok (.aload_n 0, 1) := by decide +kernel
theorem dX8_cycles_1 : decode cX8_cycles 1 = .ok (.getfield 26, 3) := by decide +kernel
theorem dX8_cycles_4 : decode cX8_cycles 4 = .ok (.invokevirtual 88, 3) := by decide +kernel
theorem dX8_cycles_7 : decode cX8_cycles 7 = .ok (.lreturn, 1) := by decide +kernel
set_option maxRecDepth 20000 in
theorem ggX8_done_X0_doneBy : GoodIn wsX8_done wsX0_doneBy := goodIn_r _ [8, 9, 17, 18, 19, 20, 21, 22, 23, 24, 25] (by decide +kernel) (by decide +kernel)
set_option maxRecDepth 20000 in
theorem gX8_done_X0_doneBy : GoodIn wsX8_done (wsV RX8 92 RX0 yX0_doneBy wsX0_doneBy) := goodIn_app (goodIn_of _ (by decide +kernel)) ggX8_done_X0_doneBy
theorem dX8_done_0 : decode cX8_done 0 = .ok (.iload_n 1, 1) := by decide +kernel
theorem dX8_done_1 : decode cX8_done 1 = .ok (.ifCond .lt 9, 3) := by decide +kernel
theorem dX8_done_4 : decode cX8_done 4 = .ok (.iload_n 1, 1) := by decide +kernel
theorem dX8_done_5 : decode cX8_done 5 = .ok (.bipush 8, 2) := by decide +kernel
theorem dX8_done_7 : decode cX8_done 7 = .ok (.if_icmp .lt 11, 3) := by decide +kernel
theorem dX8_done_10 : decode cX8_done 10 = .ok (.new 68, 3) := by decide +kernel
theorem dX8_done_13 : decode cX8_done 13 = .ok (.dup, 1) := by decide +kernel
theorem dX8_done_14 : decode cX8_done 14 = .ok (.invokespecial 70, 3) := by decide +kernel
theorem dX8_done_17 : decode cX8_done 17 = .ok (.athrow, 1) := by decide +kernel
theorem dX8_done_18 : decode cX8_done 18 = .ok (.aload_n 0, 1) := by decide +kernel
theorem dX8_done_19 : decode cX8_done 19 = .ok (.getfield 26, 3) := by decide +kernel
theorem dX8_done_22 : decode cX8_done 22 = .ok (.iload_n 1, 1) := by decide +kernel
theorem dX8_done_23 : decode cX8_done 23 = .ok (.invokevirtual 92, 3) := by decide +kernel
theorem dX8_done_26 : decode cX8_done 26 = .ok (.ireturn, 1) := by decide +kernel
set_option maxRecDepth 20000 in
theorem ggX8_waited_X0_waitedFor : GoodIn wsX8_waited wsX0_waitedFor := goodIn_r _ [8, 9, 17, 18, 19, 20, 21, 22, 23, 24, 25] (by decide +kernel) (by decide +kernel)
set_option maxRecDepth 20000 in
theorem gX8_waited_X0_waitedFor : GoodIn wsX8_waited (wsV RX8 96 RX0 yX0_waitedFor wsX0_waitedFor) := goodIn_app (goodIn_of _ (by decide +kernel)) ggX8_waited_X0_waitedFor
theorem dX8_waited_0 : decode cX8_waited 0 = .ok (.iload_n 1, 1) := by decide +kernel
theorem dX8_waited_1 : decode cX8_waited 1 = .ok (.ifCond .lt 8, 3) := by decide +kernel
theorem dX8_waited_4 : decode cX8_waited 4 = .ok (.iload_n 1, 1) := by decide +kernel
theorem dX8_waited_5 : decode cX8_waited 5 = .ok (.iconst 5, 1) := by decide +kernel
theorem dX8_waited_6 : decode cX8_waited 6 = .ok (.if_icmp .lt 11, 3) := by decide +kernel
theorem dX8_waited_9 : decode cX8_waited 9 = .ok (.new 68, 3) := by decide +kernel
theorem dX8_waited_12 : decode cX8_waited 12 = .ok (.dup, 1) := by decide +kernel
theorem dX8_waited_13 : decode cX8_waited 13 = .ok (.invokespecial 70, 3) := by decide +kernel
theorem dX8_waited_16 : decode cX8_waited 16 = .ok (.athrow, 1) := by decide +kernel
theorem dX8_waited_17 : decode cX8_waited 17 = .ok (.aload_n 0, 1) := by decide +kernel
theorem dX8_waited_18 : decode cX8_waited 18 = .ok (.getfield 26, 3) := by decide +kernel
theorem dX8_waited_21 : decode cX8_waited 21 = .ok (.iload_n 1, 1) := by decide +kernel
theorem dX8_waited_22 : decode cX8_waited 22 = .ok (.invokevirtual 96, 3) := by decide +kernel
theorem dX8_waited_25 : decode cX8_waited 25 = .ok (.lreturn, 1) := by decide +kernel
set_option maxRecDepth 20000 in
theorem ggX8_takeNext_X3_programWord : GoodIn wsX8_takeNext wsX3_programWord := goodIn_r _ [12, 13, 14, 15, 11, 16, 367, 368] (by decide +kernel) (by decide +kernel)
set_option maxRecDepth 20000 in
theorem gX8_takeNext_X3_programWord : GoodIn wsX8_takeNext (wsV RX8 99 RX3 yX3_programWord wsX3_programWord) := goodIn_app (goodIn_of _ (by decide +kernel)) ggX8_takeNext_X3_programWord
set_option maxRecDepth 20000 in
theorem ggX8_takeNext_X1_decode : GoodIn wsX8_takeNext wsX1_decode := goodIn_r _ [21, 22, 23, 24, 25, 26, 27, 28, 29, 30, 31, 32, 33, 20, 34, 35, 36, 37, 38, 39, 40, 41, 42, 43, 44, 45, 46, 47, 48, 49, 50, 51, 52, 53, 54, 55, 56, 57, 58, 59, 60, 61, 62, 63, 64, 65, 66, 67, 68, 69, 70, 71, 72, 73, 74, 75, 76, 77, 78, 79, 80, 81, 82, 83, 84, 85, 86, 87, 88, 89, 90, 91, 92, 93, 94, 95, 96, 97, 369, 370, 371, 372, 373, 374, 375, 376, 377, 378, 379] (by decide +kernel) (by decide +kernel)
set_option maxRecDepth 20000 in
theorem gX8_takeNext_X1_decode : GoodIn wsX8_takeNext (wsV RX8 102 RX1 yX1_decode wsX1_decode) := goodIn_app (goodIn_of _ (by decide +kernel)) ggX8_takeNext_X1_decode
set_option maxRecDepth 20000 in
theorem ggX8_takeNext_X1_stopCode : GoodIn wsX8_takeNext wsX1_stopCode := goodIn_r _ [101, 23, 29, 24, 22, 78, 79, 80, 20, 81, 74, 75, 76, 77, 369, 370, 371, 372, 373, 374, 375, 376, 377] (by decide +kernel) (by decide +kernel)
set_option maxRecDepth 20000 in
theorem gX8_takeNext_X1_stopCode : GoodIn wsX8_takeNext (wsV RX8 106 RX1 yX1_stopCode wsX1_stopCode) := goodIn_app (goodIn_of _ (by decide +kernel)) ggX8_takeNext_X1_stopCode
set_option maxRecDepth 20000 in
theorem ggX8_takeNext_X1_isJump : GoodIn wsX8_takeNext wsX1_isJump := goodIn_r _ [81, 23, 369, 370, 371, 372, 373, 374, 375, 376, 377] (by decide +kernel) (by decide +kernel)
set_option maxRecDepth 20000 in
theorem gX8_takeNext_X1_isJump : GoodIn wsX8_takeNext (wsV RX8 110 RX1 yX1_isJump wsX1_isJump) := goodIn_app (goodIn_of _ (by decide +kernel)) ggX8_takeNext_X1_isJump
set_option maxRecDepth 20000 in
theorem ggX8_takeNext_X8_takeJump : GoodIn wsX8_takeNext wsX8_takeJump := goodIn_r _ [107, 1, 7, 6, 2, 3, 108, 109, 110, 111, 112, 113, 114, 20, 115, 23, 116, 117, 118, 119, 24, 120, 121, 122, 123, 25, 124, 125, 126, 127, 128, 129, 130, 131, 132, 133, 134, 135, 136, 137, 138, 139, 140, 141, 142, 143, 144, 145, 146, 147, 148, 149, 150, 151, 152, 153, 154, 155, 156, 157, 158, 159, 160, 161, 162, 163, 164, 165, 166, 167, 168, 169, 170, 171, 172, 30, 173, 174, 175, 38, 176, 40, 57, 177, 178, 179, 180, 181, 182, 183, 184, 185, 186, 187, 188, 189, 190, 191, 192, 193, 194, 195, 106, 196, 4, 197, 75, 76, 77, 78, 79, 80, 81, 198, 199, 200, 201, 5, 202, 15, 11, 16, 203, 204, 205, 206, 207, 208, 209, 210, 28, 211, 212, 213, 214, 215, 216, 217, 218, 219, 220, 221, 222, 223, 13, 224, 225, 226, 227, 228, 229, 14, 360, 361, 362, 363, 364, 365, 366, 369, 370, 371, 372, 373, 374, 375, 376, 377, 380, 381, 382, 383, 384, 385, 386, 387, 388, 389, 378, 379, 367, 368] (by decide +kernel) (by decide +kernel)
set_option maxRecDepth 20000 in
theorem gX8_takeNext_X8_takeJump : GoodIn wsX8_takeNext (wsV RX8 113 RX8 yX8_takeJump wsX8_takeJump) := goodIn_app (goodIn_of _ (by decide +kernel)) ggX8_takeNext_X8_takeJump
set_option maxRecDepth 20000 in
theorem ggX8_takeNext_X0_giveOut : GoodIn wsX8_takeNext wsX0_giveOut := goodIn_r _ [233, 167, 234, 235, 236, 20, 237, 29, 238, 239, 240, 163, 241, 242, 243, 244, 179, 245, 165, 182, 183, 184, 185, 186, 178, 180, 187, 246, 247, 248, 249, 31, 173, 174, 175, 38, 176, 40, 57, 177, 250, 251, 252, 253, 254, 255, 168, 166, 256, 257, 258, 259, 169, 170, 171, 172, 30, 260, 261, 262, 263, 264, 95, 96, 97, 23, 24, 265, 83, 84, 85, 266, 267, 268, 269, 188, 189, 190, 191, 192, 270, 117, 118, 119, 271, 75, 76, 77, 78, 79, 80, 81, 381, 382, 383, 384, 385, 386, 387, 388, 389, 369, 370, 371, 372, 373, 374, 375, 376, 377, 378, 379] (by decide +kernel) (by decide +kernel)
set_option maxRecDepth 20000 in
theorem gX8_takeNext_X0_giveOut : GoodIn wsX8_takeNext (wsV RX8 116 RX0 yX0_giveOut wsX0_giveOut) := goodIn_app (goodIn_of _ (by decide +kernel)) ggX8_takeNext_X0_giveOut
set_option maxRecDepth 20000 in
theorem ggX8_takeNext_X7_apply : GoodIn wsX8_takeNext wsX7_apply := goodIn_r _ [275, 276, 235, 236, 20, 237, 29, 277, 117, 118, 119, 24, 278, 113, 114, 115, 23, 279, 121, 122, 123, 25, 280, 125, 126, 127, 128, 129, 281, 282, 283, 284, 26, 285, 286, 274, 287, 288, 289, 290, 291, 292, 293, 294, 295, 296, 297, 298, 299, 300, 301, 302, 303, 135, 304, 137, 305, 306, 307, 308, 309, 244, 179, 245, 310, 139, 140, 311, 142, 143, 144, 312, 313, 314, 315, 153, 154, 155, 316, 317, 318, 319, 320, 321, 322, 323, 212, 213, 324, 325, 326, 327, 328, 329, 158, 330, 331, 332, 333, 334, 335, 336, 337, 338, 339, 340, 341, 342, 343, 344, 345, 208, 209, 210, 28, 346, 347, 348, 349, 95, 96, 97, 350, 351, 352, 11, 353, 229, 14, 15, 16, 354, 83, 84, 85, 355, 226, 227, 228, 224, 356, 357, 358, 359, 152, 369, 370, 371, 372, 373, 374, 375, 376, 377, 380, 367, 368] (by decide +kernel) (by decide +kernel)
set_option maxRecDepth 20000 in
theorem gX8_takeNext_X7_apply : GoodIn wsX8_takeNext (va_wsS RX8 120 yX7_apply wsX7_apply) := goodIn_app (goodIn_of _ (by decide +kernel)) ggX8_takeNext_X7_apply
set_option maxRecDepth 20000 in
theorem ggX8_takeNext_X8_goOnBehind : GoodIn wsX8_takeNext wsX8_goOnBehind := goodIn_r _ [196, 4, 1, 3, 197, 75, 76, 20, 77, 23, 78, 79, 80, 81, 198, 199, 200, 106, 201, 5, 202, 15, 11, 16, 360, 361, 362, 363, 364, 365, 366, 369, 370, 371, 372, 373, 374, 375, 376, 377] (by decide +kernel) (by decide +kernel)
set_option maxRecDepth 20000 in
theorem gX8_takeNext_X8_goOnBehind : GoodIn wsX8_takeNext (wsV RX8 126 RX8 yX8_goOnBehind wsX8_goOnBehind) := goodIn_app (goodIn_of _ (by decide +kernel)) ggX8_takeNext_X8_goOnBehind
theorem dX8_takeNext_0 : decode cX8_takeNext 0 = .ok (.aload_n 0, 1) := by decide +kernel
theorem dX8_takeNext_1 : decode cX8_takeNext 1 = .ok (.getfield 33, 3) := by decide +kernel
theorem dX8_takeNext_4 : decode cX8_takeNext 4 = .ok (.aload_n 0, 1) := by decide +kernel
theorem dX8_takeNext_5 : decode cX8_takeNext 5 = .ok (.getfield 10, 3) := by decide +kernel
theorem dX8_takeNext_8 : decode cX8_takeNext 8 = .ok (.aload_n 0, 1) := by decide +kernel
theorem dX8_takeNext_9 : decode cX8_takeNext 9 = .ok (.getfield 37, 3) := by decide +kernel
theorem dX8_takeNext_12 : decode cX8_takeNext 12 = .ok (.invokevirtual 99, 3) := by decide +kernel
theorem dX8_takeNext_15 : decode cX8_takeNext 15 = .ok (.aload_n 0, 1) := by decide +kernel
theorem dX8_takeNext_16 : decode cX8_takeNext 16 = .ok (.getfield 41, 3) := by decide +kernel
theorem dX8_takeNext_19 : decode cX8_takeNext 19 = .ok (.invokevirtual 102, 3) := by decide +kernel
theorem dX8_takeNext_22 : decode cX8_takeNext 22 = .ok (.aload_n 0, 1) := by decide +kernel
theorem dX8_takeNext_23 : decode cX8_takeNext 23 = .ok (.aload_n 0, 1) := by decide +kernel
theorem dX8_takeNext_24 : decode cX8_takeNext 24 = .ok (.getfield 33, 3) := by decide +kernel
theorem dX8_takeNext_27 : decode cX8_takeNext 27 = .ok (.invokevirtual 106, 3) := by decide +kernel
theorem dX8_takeNext_30 : decode cX8_takeNext 30 = .ok (.putfield 44, 3) := by decide +kernel
theorem dX8_takeNext_33 : decode cX8_takeNext 33 = .ok (.aload_n 0, 1) := by decide +kernel
theorem dX8_takeNext_34 : decode cX8_takeNext 34 = .ok (.getfield 44, 3) := by decide +kernel
theorem dX8_takeNext_37 : decode cX8_takeNext 37 = .ok (.iconst 3, 1) := by decide +kernel
theorem dX8_takeNext_38 : decode cX8_takeNext 38 = .ok (.if_icmp .eq 5, 3) := by decide +kernel
theorem dX8_takeNext_41 : decode cX8_takeNext 41 = .ok (.iconst 0, 1) := by decide +kernel
theorem dX8_takeNext_42 : decode cX8_takeNext 42 = .ok (.ireturn, 1) := by decide +kernel
theorem dX8_takeNext_43 : decode cX8_takeNext 43 = .ok (.aload_n 0, 1) := by decide +kernel
theorem dX8_takeNext_44 : decode cX8_takeNext 44 = .ok (.getfield 33, 3) := by decide +kernel
theorem dX8_takeNext_47 : decode cX8_takeNext 47 = .ok (.invokevirtual 110, 3) := by decide +kernel
theorem dX8_takeNext_50 : decode cX8_takeNext 50 = .ok (.ifCond .eq 10, 3) := by decide +kernel
theorem dX8_takeNext_53 : decode cX8_takeNext 53 = .ok (.aload_n 0, 1) := by decide +kernel
theorem dX8_takeNext_54 : decode cX8_takeNext 54 = .ok (.invokevirtual 113, 3) := by decide +kernel
theorem dX8_takeNext_57 : decode cX8_takeNext 57 = .ok (.goto 33, 3) := by decide +kernel
theorem dX8_takeNext_60 : decode cX8_takeNext 60 = .ok (.aload_n 0, 1) := by decide +kernel
theorem dX8_takeNext_61 : decode cX8_takeNext 61 = .ok (.getfield 26, 3) := by decide +kernel
theorem dX8_takeNext_64 : decode cX8_takeNext 64 = .ok (.aload_n 0, 1) := by decide +kernel
theorem dX8_takeNext_65 : decode cX8_takeNext 65 = .ok (.getfield 33, 3) := by decide +kernel
theorem dX8_takeNext_68 : decode cX8_takeNext 68 = .ok (.invokevirtual 116, 3) := by decide +kernel
theorem dX8_takeNext_71 : decode cX8_takeNext 71 = .ok (.aload_n 0, 1) := by decide +kernel
theorem dX8_takeNext_72 : decode cX8_takeNext 72 = .ok (.getfield 33, 3) := by decide +kernel
theorem dX8_takeNext_75 : decode cX8_takeNext 75 = .ok (.aload_n 0, 1) := by decide +kernel
theorem dX8_takeNext_76 : decode cX8_takeNext 76 = .ok (.getfield 19, 3) := by decide +kernel
theorem dX8_takeNext_79 : decode cX8_takeNext 79 = .ok (.aload_n 0, 1) := by decide +kernel
theorem dX8_takeNext_80 : decode cX8_takeNext 80 = .ok (.getfield 10, 3) := by decide +kernel
theorem dX8_takeNext_83 : decode cX8_takeNext 83 = .ok (.invokestatic 120, 3) := by decide +kernel
theorem dX8_takeNext_86 : decode cX8_takeNext 86 = .ok (.aload_n 0, 1) := by decide +kernel
theorem dX8_takeNext_87 : decode cX8_takeNext 87 = .ok (.invokevirtual 126, 3) := by decide +kernel
theorem dX8_takeNext_90 : decode cX8_takeNext 90 = .ok (.iconst 1, 1) := by decide +kernel
theorem dX8_takeNext_91 : decode cX8_takeNext 91 = .ok (.ireturn, 1) := by decide +kernel
set_option maxRecDepth 20000 in
theorem ggX8_takeJump_X2_goesElsewhere : GoodIn wsX8_takeJump wsX2_goesElsewhere := goodIn_r _ [9, 10, 11, 12, 13, 14, 15, 16, 17, 18, 19, 20, 21, 22, 23, 24, 25, 26, 27, 28, 29, 30, 31, 32, 33, 8, 34, 35, 36, 37, 38, 39, 40, 41, 42, 43, 44, 45, 46, 47, 48, 49, 50, 51, 52, 53, 54, 55, 56, 57, 58, 59, 60, 61, 159, 160, 161, 162, 163, 164, 165, 166, 167, 168] (by decide +kernel) (by decide +kernel)
set_option maxRecDepth 20000 in
theorem gX8_takeJump_X2_goesElsewhere : GoodIn wsX8_takeJump (va_wsS RX8 129 yX2_goesElsewhere wsX2_goesElsewhere) := goodIn_app (goodIn_of _ (by decide +kernel)) ggX8_takeJump_X2_goesElsewhere
set_option maxRecDepth 20000 in
theorem ggX8_takeJump_X0_doJump : GoodIn wsX8_takeJump wsX0_doJump := goodIn_r _ [66, 67, 68, 69, 70, 71, 72, 73, 13, 74, 75, 76, 77, 78, 79, 80, 81, 82, 83, 84, 85, 86, 87, 11, 12, 14, 15, 88, 89, 90, 65, 91, 92, 93, 94, 95, 96, 97, 98, 169, 170, 171, 172, 173, 174, 175, 176, 177, 159, 160, 161, 162, 163, 164, 165, 166, 167, 178, 179] (by decide +kernel) (by decide +kernel)
set_option maxRecDepth 20000 in
theorem gX8_takeJump_X0_doJump : GoodIn wsX8_takeJump (wsV RX8 135 RX0 yX0_doJump wsX0_doJump) := goodIn_app (goodIn_of _ (by decide +kernel)) ggX8_takeJump_X0_doJump
set_option maxRecDepth 20000 in
theorem ggX8_takeJump_X8_goOnBehind : GoodIn wsX8_takeJump wsX8_goOnBehind := goodIn_r _ [103, 104, 1, 5, 105, 106, 107, 13, 108, 15, 109, 110, 111, 112, 113, 114, 115, 102, 116, 117, 118, 119, 120, 121, 152, 153, 154, 155, 156, 157, 158, 159, 160, 161, 162, 163, 164, 165, 166, 167] (by decide +kernel) (by decide +kernel)
set_option maxRecDepth 20000 in
theorem gX8_takeJump_X8_goOnBehind : GoodIn wsX8_takeJump (wsV RX8 126 RX8 yX8_goOnBehind wsX8_goOnBehind) := goodIn_app (goodIn_of _ (by decide +kernel)) ggX8_takeJump_X8_goOnBehind
set_option maxRecDepth 20000 in
theorem ggX8_takeJump_X2_target : GoodIn wsX8_takeJump wsX2_target := goodIn_r _ [124, 125, 10, 11, 12, 13, 14, 15, 126, 127, 128, 129, 130, 16, 17, 18, 19, 20, 43, 44, 45, 29, 46, 31, 131, 132, 37, 133, 159, 160, 161, 162, 163, 164, 165, 166, 167, 168] (by decide +kernel) (by decide +kernel)
set_option maxRecDepth 20000 in
theorem gX8_takeJump_X2_target : GoodIn wsX8_takeJump (va_wsS RX8 139 yX2_target wsX2_target) := goodIn_app (goodIn_of _ (by decide +kernel)) ggX8_takeJump_X2_target
set_option maxRecDepth 20000 in
theorem ggX8_takeJump_X1_op : GoodIn wsX8_takeJump wsX1_op := goodIn_r _ [14, 15, 159, 160, 161, 162, 163, 164, 165, 166, 167] (by decide +kernel) (by decide +kernel)
set_option maxRecDepth 20000 in
theorem gX8_takeJump_X1_op : GoodIn wsX8_takeJump (wsV RX8 143 RX1 yX1_op wsX1_op) := goodIn_app (goodIn_of _ (by decide +kernel)) ggX8_takeJump_X1_op
set_option maxRecDepth 20000 in
theorem ggX8_takeJump_X1_constant : GoodIn wsX8_takeJump wsX1_constant := goodIn_r _ [129, 130, 159, 160, 161, 162, 163, 164, 165, 166, 167] (by decide +kernel) (by decide +kernel)
set_option maxRecDepth 20000 in
theorem gX8_takeJump_X1_constant : GoodIn wsX8_takeJump (wsV RX8 146 RX1 yX1_constant wsX1_constant) := goodIn_app (goodIn_of _ (by decide +kernel)) ggX8_takeJump_X1_constant
set_option maxRecDepth 20000 in
theorem ggX8_takeJump_X2_wayBack : GoodIn wsX8_takeJump wsX2_wayBack := goodIn_r _ [138, 139] (by decide +kernel) (by decide +kernel)
set_option maxRecDepth 20000 in
theorem gX8_takeJump_X2_wayBack : GoodIn wsX8_takeJump (va_wsS RX8 149 yX2_wayBack wsX2_wayBack) := goodIn_app (goodIn_of _ (by decide +kernel)) ggX8_takeJump_X2_wayBack
set_option maxRecDepth 20000 in
theorem ggX8_takeJump_X3_storeInProgram : GoodIn wsX8_takeJump wsX3_storeInProgram := goodIn_r _ [143, 144, 145, 146, 147, 148, 120, 149, 150, 151, 119, 121, 180, 181] (by decide +kernel) (by decide +kernel)
set_option maxRecDepth 20000 in
theorem gX8_takeJump_X3_storeInProgram : GoodIn wsX8_takeJump (wsV RX8 152 RX3 yX3_storeInProgram wsX3_storeInProgram) := goodIn_app (goodIn_of _ (by decide +kernel)) ggX8_takeJump_X3_storeInProgram
set_option maxRecDepth 20000 in
theorem ggX8_takeJump_X8_goOnAt : GoodIn wsX8_takeJump wsX8_goOnAt := goodIn_r _ [116, 5, 104, 117, 118, 119, 120, 121, 152, 153, 154, 155, 156, 157, 158] (by decide +kernel) (by decide +kernel)
set_option maxRecDepth 20000 in
theorem gX8_takeJump_X8_goOnAt : GoodIn wsX8_takeJump (wsV RX8 71 RX8 yX8_goOnAt wsX8_goOnAt) := goodIn_app (goodIn_of _ (by decide +kernel)) ggX8_takeJump_X8_goOnAt
theorem dX8_takeJump_0 : decode cX8_takeJump 0 = .ok (.aload_n 0, 1) := by decide +kernel
theorem dX8_takeJump_1 : decode cX8_takeJump 1 = .ok (.getfield 33, 3) := by decide +kernel
theorem dX8_takeJump_4 : decode cX8_takeJump 4 = .ok (.aload_n 0, 1) := by decide +kernel
theorem dX8_takeJump_5 : decode cX8_takeJump 5 = .ok (.getfield 19, 3) := by decide +kernel
theorem dX8_takeJump_8 : decode cX8_takeJump 8 = .ok (.invokestatic 129, 3) := by decide +kernel
theorem dX8_takeJump_11 : decode cX8_takeJump 11 = .ok (.istore_n 1, 1) := by decide +kernel
theorem dX8_takeJump_12 : decode cX8_takeJump 12 = .ok (.aload_n 0, 1) := by decide +kernel
theorem dX8_takeJump_13 : decode cX8_takeJump 13 = .ok (.getfield 26, 3) := by decide +kernel
theorem dX8_takeJump_16 : decode cX8_takeJump 16 = .ok (.aload_n 0, 1) := by decide +kernel
theorem dX8_takeJump_17 : decode cX8_takeJump 17 = .ok (.getfield 33, 3) := by decide +kernel
theorem dX8_takeJump_20 : decode cX8_takeJump 20 = .ok (.iload_n 1, 1) := by decide +kernel
theorem dX8_takeJump_21 : decode cX8_takeJump 21 = .ok (.invokevirtual 135, 3) := by decide +kernel
theorem dX8_takeJump_24 : decode cX8_takeJump 24 = .ok (.iload_n 1, 1) := by decide +kernel
theorem dX8_takeJump_25 : decode cX8_takeJump 25 = .ok (.ifCond .ne 8, 3) := by decide +kernel
theorem dX8_takeJump_28 : decode cX8_takeJump 28 = .ok (.aload_n 0, 1) := by decide +kernel
theorem dX8_takeJump_29 : decode cX8_takeJump 29 = .ok (.invokevirtual 126, 3) := by decide +kernel
theorem dX8_takeJump_32 : decode cX8_takeJump 32 = .ok (.return_, 1) := by decide +kernel
theorem dX8_takeJump_33 : decode cX8_takeJump 33 = .ok (.aload_n 0, 1) := by decide +kernel
theorem dX8_takeJump_34 : decode cX8_takeJump 34 = .ok (.getfield 33, 3) := by decide +kernel
theorem dX8_takeJump_37 : decode cX8_takeJump 37 = .ok (.aload_n 0, 1) := by decide +kernel
theorem dX8_takeJump_38 : decode cX8_takeJump 38 = .ok (.getfield 19, 3) := by decide +kernel
theorem dX8_takeJump_41 : decode cX8_takeJump 41 = .ok (.invokestatic 139, 3) := by decide +kernel
theorem dX8_takeJump_44 : decode cX8_takeJump 44 = .ok (.istore_n 2, 1) := by decide +kernel
theorem dX8_takeJump_45 : decode cX8_takeJump 45 = .ok (.aload_n 0, 1) := by decide +kernel
theorem dX8_takeJump_46 : decode cX8_takeJump 46 = .ok (.getfield 33, 3) := by decide +kernel
theorem dX8_takeJump_49 : decode cX8_takeJump 49 = .ok (.invokevirtual 143, 3) := by decide +kernel
theorem dX8_takeJump_52 : decode cX8_takeJump 52 = .ok (.iconst 1, 1) := by decide +kernel
theorem dX8_takeJump_53 : decode cX8_takeJump 53 = .ok (.if_icmp .ne 24, 3) := by decide +kernel
theorem dX8_takeJump_56 : decode cX8_takeJump 56 = .ok (.aload_n 0, 1) := by decide +kernel
theorem dX8_takeJump_57 : decode cX8_takeJump 57 = .ok (.getfield 10, 3) := by decide +kernel
theorem dX8_takeJump_60 : decode cX8_takeJump 60 = .ok (.aload_n 0, 1) := by decide +kernel
theorem dX8_takeJump_61 : decode cX8_takeJump 61 = .ok (.getfield 33, 3) := by decide +kernel
theorem dX8_takeJump_64 : decode cX8_takeJump 64 = .ok (.invokevirtual 146, 3) := by decide +kernel
theorem dX8_takeJump_67 : decode cX8_takeJump 67 = .ok (.aload_n 0, 1) := by decide +kernel
theorem dX8_takeJump_68 : decode cX8_takeJump 68 = .ok (.getfield 37, 3) := by decide +kernel
theorem dX8_takeJump_71 : decode cX8_takeJump 71 = .ok (.invokestatic 149, 3) := by decide +kernel
theorem dX8_takeJump_74 : decode cX8_takeJump 74 = .ok (.invokevirtual 152, 3) := by decide +kernel
theorem dX8_takeJump_77 : decode cX8_takeJump 77 = .ok (.aload_n 0, 1) := by decide +kernel
theorem dX8_takeJump_78 : decode cX8_takeJump 78 = .ok (.iload_n 2, 1) := by decide +kernel
theorem dX8_takeJump_79 : decode cX8_takeJump 79 = .ok (.invokevirtual 71, 3) := by decide +kernel
theorem dX8_takeJump_82 : decode cX8_takeJump 82 = .ok (.return_, 1) := by decide +kernel
set_option maxRecDepth 20000 in
theorem ggX8_goOnBehind_X1_parcels : GoodIn wsX8_goOnBehind wsX1_parcels := goodIn_r _ [8, 9, 10, 11, 12, 7, 13, 31, 32, 33, 34, 35, 36, 37, 38, 39] (by decide +kernel) (by decide +kernel)
set_option maxRecDepth 20000 in
theorem gX8_goOnBehind_X1_parcels : GoodIn wsX8_goOnBehind (wsV RX8 155 RX1 yX1_parcels wsX1_parcels) := goodIn_app (goodIn_of _ (by decide +kernel)) ggX8_goOnBehind_X1_parcels
set_option maxRecDepth 20000 in
theorem ggX8_goOnBehind_X8_goOnAt : GoodIn wsX8_goOnBehind wsX8_goOnAt := goodIn_r _ [18, 3, 1, 19, 20, 21, 22, 23, 24, 25, 26, 27, 28, 29, 30] (by decide +kernel) (by decide +kernel)
set_option maxRecDepth 20000 in
theorem gX8_goOnBehind_X8_goOnAt : GoodIn wsX8_goOnBehind (wsV RX8 71 RX8 yX8_goOnAt wsX8_goOnAt) := goodIn_app (goodIn_of _ (by decide +kernel)) ggX8_goOnBehind_X8_goOnAt
theorem dX8_goOnBehind_0 : decode cX8_goOnBehind 0 = .ok (.aload_n 0, 1) := by decide +kernel
theorem dX8_goOnBehind_1 : decode cX8_goOnBehind 1 = .ok (.getfield 41, 3) := by decide +kernel
theorem dX8_goOnBehind_4 : decode cX8_goOnBehind 4 = .ok (.aload_n 0, 1) := by decide +kernel
theorem dX8_goOnBehind_5 : decode cX8_goOnBehind 5 = .ok (.getfield 33, 3) := by decide +kernel
theorem dX8_goOnBehind_8 : decode cX8_goOnBehind 8 = .ok (.invokevirtual 155, 3) := by decide +kernel
theorem dX8_goOnBehind_11 : decode cX8_goOnBehind 11 = .ok (.iadd, 1) := by decide +kernel
theorem dX8_goOnBehind_12 : decode cX8_goOnBehind 12 = .ok (.istore_n 1, 1) := by decide +kernel
theorem dX8_goOnBehind_13 : decode cX8_goOnBehind 13 = .ok (.iload_n 1, 1) := by decide +kernel
theorem dX8_goOnBehind_14 : decode cX8_goOnBehind 14 = .ok (.iconst 4, 1) := by decide +kernel
theorem dX8_goOnBehind_15 : decode cX8_goOnBehind 15 = .ok (.if_icmp .ge 11, 3) := by decide +kernel
theorem dX8_goOnBehind_18 : decode cX8_goOnBehind 18 = .ok (.aload_n 0, 1) := by decide +kernel
theorem dX8_goOnBehind_19 : decode cX8_goOnBehind 19 = .ok (.iload_n 1, 1) := by decide +kernel
theorem dX8_goOnBehind_20 : decode cX8_goOnBehind 20 = .ok (.putfield 41, 3) := by decide +kernel
theorem dX8_goOnBehind_23 : decode cX8_goOnBehind 23 = .ok (.goto 13, 3) := by decide +kernel
theorem dX8_goOnBehind_26 : decode cX8_goOnBehind 26 = .ok (.aload_n 0, 1) := by decide +kernel
theorem dX8_goOnBehind_27 : decode cX8_goOnBehind 27 = .ok (.aload_n 0, 1) := by decide +kernel
theorem dX8_goOnBehind_28 : decode cX8_goOnBehind 28 = .ok (.getfield 37, 3) := by decide +kernel
theorem dX8_goOnBehind_31 : decode cX8_goOnBehind 31 = .ok (.iconst 1, 1) := by decide +kernel
theorem dX8_goOnBehind_32 : decode cX8_goOnBehind 32 = .ok (.iadd, 1) := by decide +kernel
theorem dX8_goOnBehind_33 : decode cX8_goOnBehind 33 = .ok (.invokevirtual 71, 3) := by decide +kernel
theorem dX8_goOnBehind_36 : decode cX8_goOnBehind 36 = .ok (.return_, 1) := by decide +kernel
set_option maxRecDepth 20000 in
theorem ggX8_goOnAt_X3_holds : GoodIn wsX8_goOnAt wsX3_holds := goodIn_r _ [7] (by decide +kernel) (by decide +kernel)
set_option maxRecDepth 20000 in
theorem gX8_goOnAt_X3_holds : GoodIn wsX8_goOnAt (va_wsS RX8 47 yX3_holds wsX3_holds) := goodIn_app (goodIn_of _ (by decide +kernel)) ggX8_goOnAt_X3_holds
theorem dX8_goOnAt_0 : decode cX8_goOnAt 0 = .ok (.aload_n 0, 1) := by decide +kernel
theorem dX8_goOnAt_1 : decode cX8_goOnAt 1 = .ok (.iload_n 1, 1) := by decide +kernel
theorem dX8_goOnAt_2 : decode cX8_goOnAt 2 = .ok (.putfield 37, 3) := by decide +kernel
theorem dX8_goOnAt_5 : decode cX8_goOnAt 5 = .ok (.aload_n 0, 1) := by decide +kernel
theorem dX8_goOnAt_6 : decode cX8_goOnAt 6 = .ok (.iconst 0, 1) := by decide +kernel
theorem dX8_goOnAt_7 : decode cX8_goOnAt 7 = .ok (.putfield 41, 3) := by decide +kernel
theorem dX8_goOnAt_10 : decode cX8_goOnAt 10 = .ok (.iload_n 1, 1) := by decide +kernel
theorem dX8_goOnAt_11 : decode cX8_goOnAt 11 = .ok (.invokestatic 47, 3) := by decide +kernel
theorem dX8_goOnAt_14 : decode cX8_goOnAt 14 = .ok (.ifCond .ne 8, 3) := by decide +kernel
theorem dX8_goOnAt_17 : decode cX8_goOnAt 17 = .ok (.aload_n 0, 1) := by decide +kernel
theorem dX8_goOnAt_18 : decode cX8_goOnAt 18 = .ok (.iconst 2, 1) := by decide +kernel
theorem dX8_goOnAt_19 : decode cX8_goOnAt 19 = .ok (.putfield 44, 3) := by decide +kernel
theorem dX8_goOnAt_22 : decode cX8_goOnAt 22 = .ok (.return_, 1) := by decide +kernel
end
section
theorem dJ13_compare_74951_0 : decode cJ13_compare_74951 0 = .ok (.lload_n 0, 1) := by decide +kernel
theorem dJ13_compare_74951_1 : decode cJ13_compare_74951 1 = .ok (.lload_n 2, 1) := by decide +kernel
theorem dJ13_compare_74951_2 : decode cJ13_compare_74951 2 = .ok (.lcmp, 1) := by decide +kernel
theorem dJ13_compare_74951_3 : decode cJ13_compare_74951 3 = .ok (.ifCond .ge 7, 3) := by decide +kernel
theorem dJ13_compare_74951_6 : decode cJ13_compare_74951 6 = .ok (.iconst (-1), 1) := by decide +kernel
theorem dJ13_compare_74951_7 : decode cJ13_compare_74951 7 = .ok (.goto 14, 3) := by decide +kernel
theorem dJ13_compare_74951_10 : decode cJ13_compare_74951 10 = .ok (.lload_n 0, 1) := by decide +kernel
theorem dJ13_compare_74951_11 : decode cJ13_compare_74951 11 = .ok (.lload_n 2, 1) := by decide +kernel
theorem dJ13_compare_74951_12 : decode cJ13_compare_74951 12 = .ok (.lcmp, 1) := by decide +kernel
theorem dJ13_compare_74951_13 : decode cJ13_compare_74951 13 = .ok (.ifCond .ne 7, 3) := by decide +kernel
theorem dJ13_compare_74951_16 : decode cJ13_compare_74951 16 = .ok (.iconst 0, 1) := by decide +kernel
theorem dJ13_compare_74951_17 : decode cJ13_compare_74951 17 = .ok (.goto 4, 3) := by decide +kernel
theorem dJ13_compare_74951_20 : decode cJ13_compare_74951 20 = .ok (.iconst 1, 1) := by decide +kernel
theorem dJ13_compare_74951_21 : decode cJ13_compare_74951 21 = .ok (.ireturn, 1) := by decide +kernel
theorem dJ13_bitCount_95d88_0 : decode cJ13_bitCount_95d88 0 = .ok (.lload_n 0, 1) := by decide +kernel
theorem dJ13_bitCount_95d88_1 : decode cJ13_bitCount_95d88 1 = .ok (.lload_n 0, 1) := by decide +kernel
theorem dJ13_bitCount_95d88_2 : decode cJ13_bitCount_95d88 2 = .ok (.iconst 1, 1) := by decide +kernel
theorem dJ13_bitCount_95d88_3 : decode cJ13_bitCount_95d88 3 = .ok (.lushr, 1) := by decide +kernel
theorem dJ13_bitCount_95d88_4 : decode cJ13_bitCount_95d88 4 = .ok (.ldc2_w 314, 3) := by decide +kernel
theorem dJ13_bitCount_95d88_7 : decode cJ13_bitCount_95d88 7 = .ok (.land, 1) := by decide +kernel
theorem dJ13_bitCount_95d88_8 : decode cJ13_bitCount_95d88 8 = .ok (.lsub, 1) := by decide +kernel
theorem dJ13_bitCount_95d88_9 : decode cJ13_bitCount_95d88 9 = .ok (.lstore_n 0, 1) := by decide +kernel
theorem dJ13_bitCount_95d88_10 : decode cJ13_bitCount_95d88 10 = .ok (.lload_n 0, 1) := by decide +kernel
theorem dJ13_bitCount_95d88_11 : decode cJ13_bitCount_95d88 11 = .ok (.ldc2_w 316, 3) := by decide +kernel
theorem dJ13_bitCount_95d88_14 : decode cJ13_bitCount_95d88 14 = .ok (.land, 1) := by decide +kernel
theorem dJ13_bitCount_95d88_15 : decode cJ13_bitCount_95d88 15 = .ok (.lload_n 0, 1) := by decide +kernel
theorem dJ13_bitCount_95d88_16 : decode cJ13_bitCount_95d88 16 = .ok (.iconst 2, 1) := by decide +kernel
theorem dJ13_bitCount_95d88_17 : decode cJ13_bitCount_95d88 17 = .ok (.lushr, 1) := by decide +kernel
theorem dJ13_bitCount_95d88_18 : decode cJ13_bitCount_95d88 18 = .ok (.ldc2_w 316, 3) := by decide +kernel
theorem dJ13_bitCount_95d88_21 : decode cJ13_bitCount_95d88 21 = .ok (.land, 1) := by decide +kernel
theorem dJ13_bitCount_95d88_22 : decode cJ13_bitCount_95d88 22 = .ok (.ladd, 1) := by decide +kernel
theorem dJ13_bitCount_95d88_23 : decode cJ13_bitCount_95d88 23 = .ok (.lstore_n 0, 1) := by decide +kernel
theorem dJ13_bitCount_95d88_24 : decode cJ13_bitCount_95d88 24 = .ok (.lload_n 0, 1) := by decide +kernel
theorem dJ13_bitCount_95d88_25 : decode cJ13_bitCount_95d88 25 = .ok (.lload_n 0, 1) := by decide +kernel
theorem dJ13_bitCount_95d88_26 : decode cJ13_bitCount_95d88 26 = .ok (.iconst 4, 1) := by decide +kernel
theorem dJ13_bitCount_95d88_27 : decode cJ13_bitCount_95d88 27 = .ok (.lushr, 1) := by decide +kernel
theorem dJ13_bitCount_95d88_28 : decode cJ13_bitCount_95d88 28 = .ok (.ladd, 1) := by decide +kernel
theorem dJ13_bitCount_95d88_29 : decode cJ13_bitCount_95d88 29 = .ok (.ldc2_w 318, 3) := by decide +kernel
theorem dJ13_bitCount_95d88_32 : decode cJ13_bitCount_95d88 32 = .ok (.land, 1) := by decide +kernel
theorem dJ13_bitCount_95d88_33 : decode cJ13_bitCount_95d88 33 = .ok (.lstore_n 0, 1) := by decide +kernel
theorem dJ13_bitCount_95d88_34 : decode cJ13_bitCount_95d88 34 = .ok (.lload_n 0, 1) := by decide +kernel
theorem dJ13_bitCount_95d88_35 : decode cJ13_bitCount_95d88 35 = .ok (.lload_n 0, 1) := by decide +kernel
theorem dJ13_bitCount_95d88_36 : decode cJ13_bitCount_95d88 36 = .ok (.bipush 8, 2) := by decide +kernel
theorem dJ13_bitCount_95d88_38 : decode cJ13_bitCount_95d88 38 = .ok (.lushr, 1) := by decide +kernel
theorem dJ13_bitCount_95d88_39 : decode cJ13_bitCount_95d88 39 = .ok (.ladd, 1) := by decide +kernel
theorem dJ13_bitCount_95d88_40 : decode cJ13_bitCount_95d88 40 = .ok (.lstore_n 0, 1) := by decide +kernel
theorem dJ13_bitCount_95d88_41 : decode cJ13_bitCount_95d88 41 = .ok (.lload_n 0, 1) := by decide +kernel
theorem dJ13_bitCount_95d88_42 : decode cJ13_bitCount_95d88 42 = .ok (.lload_n 0, 1) := by decide +kernel
theorem dJ13_bitCount_95d88_43 : decode cJ13_bitCount_95d88 43 = .ok (.bipush 16, 2) := by decide +kernel
theorem dJ13_bitCount_95d88_45 : decode cJ13_bitCount_95d88 45 = .ok (.lushr, 1) := by decide +kernel
theorem dJ13_bitCount_95d88_46 : decode cJ13_bitCount_95d88 46 = .ok (.ladd, 1) := by decide +kernel
theorem dJ13_bitCount_95d88_47 : decode cJ13_bitCount_95d88 47 = .ok (.lstore_n 0, 1) := by decide +kernel
theorem dJ13_bitCount_95d88_48 : decode cJ13_bitCount_95d88 48 = .ok (.lload_n 0, 1) := by decide +kernel
theorem dJ13_bitCount_95d88_49 : decode cJ13_bitCount_95d88 49 = .ok (.lload_n 0, 1) := by decide +kernel
theorem dJ13_bitCount_95d88_50 : decode cJ13_bitCount_95d88 50 = .ok (.bipush 32, 2) := by decide +kernel
theorem dJ13_bitCount_95d88_52 : decode cJ13_bitCount_95d88 52 = .ok (.lushr, 1) := by decide +kernel
theorem dJ13_bitCount_95d88_53 : decode cJ13_bitCount_95d88 53 = .ok (.ladd, 1) := by decide +kernel
theorem dJ13_bitCount_95d88_54 : decode cJ13_bitCount_95d88 54 = .ok (.lstore_n 0, 1) := by decide +kernel
theorem dJ13_bitCount_95d88_55 : decode cJ13_bitCount_95d88 55 = .ok (.lload_n 0, 1) := by decide +kernel
theorem dJ13_bitCount_95d88_56 : decode cJ13_bitCount_95d88 56 = .ok (.l2i, 1) := by decide +kernel
theorem dJ13_bitCount_95d88_57 : decode cJ13_bitCount_95d88 57 = .ok (.bipush 127, 2) := by decide +kernel
theorem dJ13_bitCount_95d88_59 : decode cJ13_bitCount_95d88 59 = .ok (.iand, 1) := by decide +kernel
theorem dJ13_bitCount_95d88_60 : decode cJ13_bitCount_95d88 60 = .ok (.ireturn, 1) := by decide +kernel
theorem dJ9_max_7cf53_0 : decode cJ9_max_7cf53 0 = .ok (.iload_n 0, 1) := by decide +kernel
theorem dJ9_max_7cf53_1 : decode cJ9_max_7cf53 1 = .ok (.iload_n 1, 1) := by decide +kernel
theorem dJ9_max_7cf53_2 : decode cJ9_max_7cf53 2 = .ok (.if_icmp .lt 7, 3) := by decide +kernel
theorem dJ9_max_7cf53_5 : decode cJ9_max_7cf53 5 = .ok (.iload_n 0, 1) := by decide +kernel
theorem dJ9_max_7cf53_6 : decode cJ9_max_7cf53 6 = .ok (.goto 4, 3) := by decide +kernel
theorem dJ9_max_7cf53_9 : decode cJ9_max_7cf53 9 = .ok (.iload_n 1, 1) := by decide +kernel
theorem dJ9_max_7cf53_10 : decode cJ9_max_7cf53 10 = .ok (.ireturn, 1) := by decide +kernel
theorem dJ9_min_7cf53_0 : decode cJ9_min_7cf53 0 = .ok (.iload_n 0, 1) := by decide +kernel
theorem dJ9_min_7cf53_1 : decode cJ9_min_7cf53 1 = .ok (.iload_n 1, 1) := by decide +kernel
theorem dJ9_min_7cf53_2 : decode cJ9_min_7cf53 2 = .ok (.if_icmp .gt 7, 3) := by decide +kernel
theorem dJ9_min_7cf53_5 : decode cJ9_min_7cf53 5 = .ok (.iload_n 0, 1) := by decide +kernel
theorem dJ9_min_7cf53_6 : decode cJ9_min_7cf53 6 = .ok (.goto 4, 3) := by decide +kernel
theorem dJ9_min_7cf53_9 : decode cJ9_min_7cf53 9 = .ok (.iload_n 1, 1) := by decide +kernel
theorem dJ9_min_7cf53_10 : decode cJ9_min_7cf53 10 = .ok (.ireturn, 1) := by decide +kernel
theorem dJ7_fill_53178_0 : decode cJ7_fill_53178 0 = .ok (.iconst 0, 1) := by decide +kernel
theorem dJ7_fill_53178_1 : decode cJ7_fill_53178 1 = .ok (.istore_n 2, 1) := by decide +kernel
theorem dJ7_fill_53178_2 : decode cJ7_fill_53178 2 = .ok (.aload_n 0, 1) := by decide +kernel
theorem dJ7_fill_53178_3 : decode cJ7_fill_53178 3 = .ok (.arraylength, 1) := by decide +kernel
theorem dJ7_fill_53178_4 : decode cJ7_fill_53178 4 = .ok (.istore_n 3, 1) := by decide +kernel
theorem dJ7_fill_53178_5 : decode cJ7_fill_53178 5 = .ok (.iload_n 2, 1) := by decide +kernel
theorem dJ7_fill_53178_6 : decode cJ7_fill_53178 6 = .ok (.iload_n 3, 1) := by decide +kernel
theorem dJ7_fill_53178_7 : decode cJ7_fill_53178 7 = .ok (.if_icmp .ge 13, 3) := by decide +kernel
theorem dJ7_fill_53178_10 : decode cJ7_fill_53178 10 = .ok (.aload_n 0, 1) := by decide +kernel
theorem dJ7_fill_53178_11 : decode cJ7_fill_53178 11 = .ok (.iload_n 2, 1) := by decide +kernel
theorem dJ7_fill_53178_12 : decode cJ7_fill_53178 12 = .ok (.iload_n 1, 1) := by decide +kernel
theorem dJ7_fill_53178_13 : decode cJ7_fill_53178 13 = .ok (.iastore, 1) := by decide +kernel
theorem dJ7_fill_53178_14 : decode cJ7_fill_53178 14 = .ok (.iinc 2 1, 3) := by decide +kernel
theorem dJ7_fill_53178_17 : decode cJ7_fill_53178 17 = .ok (.goto (-12), 3) := by decide +kernel
theorem dJ7_fill_53178_20 : decode cJ7_fill_53178 20 = .ok (.return_, 1) := by decide +kernel
set_option maxRecDepth 20000 in
theorem ggL_write_X8_write : GoodIn wsL_write wsX8_write := goodIn_ca (goodIn_r _ [6, 7, 8, 9, 10, 11, 12, 13, 14, 15, 16, 17, 18, 19, 20, 21, 22, 23, 24, 25, 26, 27, 28, 29, 30, 31, 32, 33] (by decide +kernel) (by decide +kernel)) (goodIn_sub (fun _ h => List.mem_cons_of_mem _ (List.mem_append_right _ h)) (by decide +kernel))
set_option maxRecDepth 20000 in
theorem gL_write_X8_write : GoodIn wsL_write (wsV RL 7 RX8 yX8_write wsX8_write) := goodIn_app (goodIn_of _ (by decide +kernel)) ggL_write_X8_write
abbrev vwCl : List vw_C := [(RX0, TX0, 9), (RX1, TX1, 9), (RX3, TX3, 2), (RX5, TX5, 2), (RX6, TX6, 1), (RX8, TX8, 7), (RX9, TX9, 24)]
end
section
/-! rules of mine: what a body's walk stands on, contracts that only read, contracts that write, and their calls -/
def Cx (p : Program) (s : State) (m : MethodId) (meth : Method) (c : Code) (cc : ByteArray) (nL : Nat) (ret : Option FieldType) (ws : List Cond) (own : String) (args : Array Value) : Prop :=
  p.tables.exec = Jvm.exec ∧ c.code = cc ∧ meth.sig.returnType = ret ∧ meth.locks = false ∧ c.maxLocals = nL ∧ s.vm.findClass own = some m.cls ∧ ∀ w ∈ ws, w.before args s = true
/-- the start of a contract that only reads -/
abbrev Ro_P (D : va_G) (tys : List (ClassId × FieldType)) (ws : va_W) (As : List Value) : Array Value → State → Prop := va_Pc As (fun U => va_P D vwCl ws U.heap ∧ va_K D vwCl tys U)
def RoI (l : Launch) (y : MethodName) (wl : List Cond) (rm : Room) (D : va_G) (tys : List (ClassId × FieldType)) (ws : va_W) (As : List Value) (v : Int32) : Prop := Met l y wl rm (Ro_P D tys ws As) (vp_Si (fun r => r = v)) 0 0 (fun _ => False)
def RoL (l : Launch) (y : MethodName) (wl : List Cond) (rm : Room) (D : va_G) (tys : List (ClassId × FieldType)) (ws : va_W) (As : List Value) (v : Int64) : Prop := Met l y wl rm (Ro_P D tys ws As) (vp_Sl (fun r => r = v)) 0 0 (fun _ => False)
def RoR (l : Launch) (y : MethodName) (wl : List Cond) (rm : Room) (D : va_G) (tys : List (ClassId × FieldType)) (ws : va_W) (As : List Value) (v : Nat) : Prop := Met l y wl rm (Ro_P D tys ws As) (va_Sr (fun r => r = v) (fun k => Value.ref k)) 0 0 (fun _ => False)
/-- the static row UNIT_CYCLES, where a method needs it -/
def uc (j : Nat) : Int32 := if j = 3 then 8 else 3
def Zs (z : Bool) (A : Nat → Prop) (U : State) (H : Heap) : Prop := z = true → ∃ t : Nat, va_Z "ScoreboardCore$Board" "UNIT_CYCLES" "[I" (.ref t) A U H ∧ va_T .int t 6 (fun j => .int (uc j)) A U H
theorem Zs.no (A : Nat → Prop) (U : State) (H : Heap) : Zs false A U H := fun h => by cases h
theorem Zs.moved {z : Bool} {A : Nat → Prop} {u U : State} {H : Heap} (hvm : u.vm.Alike U.vm) (h : Zs z A u H) : Zs z A U H := fun hz => by
  obtain ⟨t, h1, h2⟩ := h hz
  exact ⟨t, h1.moved hvm, h2.moved hvm⟩
theorem Zs.kept {z : Bool} {A : Nat → Prop} {U : State} {H H1 : Heap} (h : Zs z A U H) (hq : ∀ a : Nat, a < H.size → ¬ A a → H1[a]? = H[a]?) : Zs z A U H1 := fun hz => by
  obtain ⟨t, h1, h2⟩ := h hz
  exact ⟨t, h1.kept hq, h2.kept hq⟩
theorem Zs.narrow {z : Bool} {A B : Nat → Prop} {U : State} {H : Heap} (h : Zs z A U H) (hAB : ∀ q, B q → A q) : Zs z B U H := fun hz => by
  obtain ⟨t, h1, h2⟩ := h hz
  exact ⟨t, h1.narrow hAB, h2.narrow hAB⟩
/-- a contract that writes: from the cells w0 to the cells w1 -/
abbrev Wr_P (z : Bool) (D : va_G) (tys : List (ClassId × FieldType)) (w0 : va_W) (As : List Value) (sz : Nat) : Array Value → State → Prop := va_Pc As (fun U => U.heap.size = sz ∧ va_P D vwCl w0 U.heap ∧ va_K D vwCl tys U ∧ va_D (fun _ => True) w0 ∧ Zs z (va_A w0 sz) U U.heap)
abbrev Wr_B (D : va_G) (tys : List (ClassId × FieldType)) (w0 w1 : va_W) (sz : Nat) : Unit → State → Prop := fun _ t => va_P D vwCl w1 t.heap ∧ va_K D vwCl tys t ∧ va_D (va_A w0 sz) w1
def WrI (z : Bool) (l : Launch) (y : MethodName) (wl : List Cond) (rm : Room) (D : va_G) (tys : List (ClassId × FieldType)) (w0 w1 : va_W) (As : List Value) (v : Int32) : Prop := ∀ sz : Nat, Met l y wl rm (Wr_P z D tys w0 As sz) (va_Qi (fun r (_ : Unit) => r = v) (Wr_B D tys w0 w1 sz) (va_A w0 sz)) 0 0 (va_A w0 sz)
def WrL (z : Bool) (l : Launch) (y : MethodName) (wl : List Cond) (rm : Room) (D : va_G) (tys : List (ClassId × FieldType)) (w0 w1 : va_W) (As : List Value) (v : Int64) : Prop := ∀ sz : Nat, Met l y wl rm (Wr_P z D tys w0 As sz) (va_Ql (fun r (_ : Unit) => r = v) (Wr_B D tys w0 w1 sz) (va_A w0 sz)) 0 0 (va_A w0 sz)
def WrV (z : Bool) (l : Launch) (y : MethodName) (wl : List Cond) (rm : Room) (D : va_G) (tys : List (ClassId × FieldType)) (w0 w1 : va_W) (As : List Value) : Prop := ∀ sz : Nat, Met l y wl rm (Wr_P z D tys w0 As sz) (va_Qv (fun (_ : Unit) => True) (Wr_B D tys w0 w1 sz) (va_A w0 sz)) 0 0 (va_A w0 sz)
section MyRules
variable {p : Program} {l : Launch} {e : Env} {R : Room} {s : State} {m : MethodId} {args : Array Value} {below : List Frame} {meth : Method} {c : Code} {H : Heap} {locs : List Loc} {cells slots : Nat} {Q : State → Prop}
variable {cc : ByteArray} {nL : Nat} {ret : Option FieldType} {wl : List Cond} {own : String}
theorem Cx.ofB {y : MethodName} {rm : Room} {s₁ : State} (hy : wl = Cond.code y cc nL ret :: wl.tail) (B : BodyLoose p l y (headSpec wl rm) cc nL ret e s m args below meth c s₁) (hml : c.maxLocals = nL) : Cx p s m meth c cc nL ret wl y.cls args :=
  ⟨B.exec, B.bytes, B.returns, B.notSynchronized, hml, findClass_of_methodNamed B.named, atoms_spec (ws := wl) B.pre⟩
/-- from the entry of a body: its locals -/
theorem ent_W {As : List Value} {nL : Nat} (hfit : (lg_sl As).length ≤ nL) {lv : List (Nat × Value)} (hlv : lv_args 0 As = lv)
    (k : ∀ ls : Array Slot, lv_has ls nL lv → W p l e R s m args below meth c H locs cells slots Q (F0 m 0 ls [])) : W p l e R s m args below meth c H locs cells slots Q (entryFrame m As.toArray nL) := by
  have hl := lv_entry As (n := nL) hfit
  rw [lg_entry_eq]
  rw [hlv] at hl
  exact k _ hl
end MyRules
section MyRules2
variable {z : Bool} {l : Launch} {y : MethodName} {wl wl' : List Cond} {rm : Room} {D : va_G} {tys : List (ClassId × FieldType)} {ws w0 w1 : va_W} {As : List Value} {cc : ByteArray} {nL : Nat} {ret : Option FieldType}
theorem RoI.mk {v : Int32} (lv : List (Nat × Value)) (hy : plainName y.cls = true) (hw : wl = Cond.code y cc nL ret :: wl') (hfit : (lg_sl As).length ≤ nL) (hlv : lv_args 0 As = lv)
    (body : ∀ (p : Program) (e : Env) (s : State) (m : MethodId) (below : List Frame) (meth : Method) (c : Code), Cx p s m meth c cc nL ret wl y.cls As.toArray → va_P D vwCl ws s.heap → va_K D vwCl tys s → ∀ ls : Array Slot, lv_has ls nL lv →
      W p l e rm s m As.toArray below meth c s.heap [] 0 0 (MQ below (vp_Si (fun r => r = v)) As.toArray s 0 0 (fun _ => False)) (F0 m 0 ls [])) : RoI l y wl rm D tys ws As v := by
  refine Met.ofW (cc := cc) (maxL := nL) (ret := ret) hy hw ?_
  intro p e s m args below meth c s₁ B hml hv
  obtain ⟨rfl, hP, hK⟩ := hv
  exact ent_W hfit hlv (body p e s m below meth c (Cx.ofB (by rw [hw]; rfl) B hml) hP hK)
theorem RoL.mk {v : Int64} (lv : List (Nat × Value)) (hy : plainName y.cls = true) (hw : wl = Cond.code y cc nL ret :: wl') (hfit : (lg_sl As).length ≤ nL) (hlv : lv_args 0 As = lv)
    (body : ∀ (p : Program) (e : Env) (s : State) (m : MethodId) (below : List Frame) (meth : Method) (c : Code), Cx p s m meth c cc nL ret wl y.cls As.toArray → va_P D vwCl ws s.heap → va_K D vwCl tys s → ∀ ls : Array Slot, lv_has ls nL lv →
      W p l e rm s m As.toArray below meth c s.heap [] 0 0 (MQ below (vp_Sl (fun r => r = v)) As.toArray s 0 0 (fun _ => False)) (F0 m 0 ls [])) : RoL l y wl rm D tys ws As v := by
  refine Met.ofW (cc := cc) (maxL := nL) (ret := ret) hy hw ?_
  intro p e s m args below meth c s₁ B hml hv
  obtain ⟨rfl, hP, hK⟩ := hv
  exact ent_W hfit hlv (body p e s m below meth c (Cx.ofB (by rw [hw]; rfl) B hml) hP hK)
theorem RoR.mk {v : Nat} (lv : List (Nat × Value)) (hy : plainName y.cls = true) (hw : wl = Cond.code y cc nL ret :: wl') (hfit : (lg_sl As).length ≤ nL) (hlv : lv_args 0 As = lv)
    (body : ∀ (p : Program) (e : Env) (s : State) (m : MethodId) (below : List Frame) (meth : Method) (c : Code), Cx p s m meth c cc nL ret wl y.cls As.toArray → va_P D vwCl ws s.heap → va_K D vwCl tys s → ∀ ls : Array Slot, lv_has ls nL lv →
      W p l e rm s m As.toArray below meth c s.heap [] 0 0 (MQ below (va_Sr (fun r => r = v) (fun k => Value.ref k)) As.toArray s 0 0 (fun _ => False)) (F0 m 0 ls [])) : RoR l y wl rm D tys ws As v := by
  refine Met.ofW (cc := cc) (maxL := nL) (ret := ret) hy hw ?_
  intro p e s m args below meth c s₁ B hml hv
  obtain ⟨rfl, hP, hK⟩ := hv
  exact ent_W hfit hlv (body p e s m below meth c (Cx.ofB (by rw [hw]; rfl) B hml) hP hK)
/-- the end of a writing body -/
abbrev QI (D : va_G) (tys : List (ClassId × FieldType)) (w0 w1 : va_W) (sz : Nat) (v : Int32) : Array Value → State → Outcome → State → Prop := va_Qi (fun r (_ : Unit) => r = v) (Wr_B D tys w0 w1 sz) (va_A w0 sz)
abbrev QL (D : va_G) (tys : List (ClassId × FieldType)) (w0 w1 : va_W) (sz : Nat) (v : Int64) : Array Value → State → Outcome → State → Prop := va_Ql (fun r (_ : Unit) => r = v) (Wr_B D tys w0 w1 sz) (va_A w0 sz)
abbrev QV (D : va_G) (tys : List (ClassId × FieldType)) (w0 w1 : va_W) (sz : Nat) : Array Value → State → Outcome → State → Prop := va_Qv (fun (_ : Unit) => True) (Wr_B D tys w0 w1 sz) (va_A w0 sz)
theorem WrI.mk {v : Int32} (lv : List (Nat × Value)) (hy : plainName y.cls = true) (hw : wl = Cond.code y cc nL ret :: wl') (hfit : (lg_sl As).length ≤ nL) (hlv : lv_args 0 As = lv)
    (body : ∀ (p : Program) (e : Env) (s : State) (m : MethodId) (below : List Frame) (meth : Method) (c : Code), Cx p s m meth c cc nL ret wl y.cls As.toArray → va_P D vwCl w0 s.heap → va_K D vwCl tys s → va_D (va_A w0 s.heap.size) w0 → va_S (va_A w0 s.heap.size) s.heap s.heap [] → Zs z (va_A w0 s.heap.size) s s.heap → ∀ ls : Array Slot, lv_has ls nL lv →
      W p l e rm s m As.toArray below meth c s.heap [] 0 0 (MQ below (QI D tys w0 w1 s.heap.size v) As.toArray s 0 0 (va_A w0 s.heap.size)) (F0 m 0 ls [])) : WrI z l y wl rm D tys w0 w1 As v := by
  intro sz
  refine Met.ofW (cc := cc) (maxL := nL) (ret := ret) hy hw ?_
  intro p e s m args below meth c s₁ B hml hv
  obtain ⟨rfl, rfl, hP, hK, hD, hZ⟩ := hv
  exact ent_W hfit hlv (body p e s m below meth c (Cx.ofB (by rw [hw]; rfl) B hml) hP hK (hD.self (sz := s.heap.size)) va_S.rf hZ)
theorem WrL.mk {v : Int64} (lv : List (Nat × Value)) (hy : plainName y.cls = true) (hw : wl = Cond.code y cc nL ret :: wl') (hfit : (lg_sl As).length ≤ nL) (hlv : lv_args 0 As = lv)
    (body : ∀ (p : Program) (e : Env) (s : State) (m : MethodId) (below : List Frame) (meth : Method) (c : Code), Cx p s m meth c cc nL ret wl y.cls As.toArray → va_P D vwCl w0 s.heap → va_K D vwCl tys s → va_D (va_A w0 s.heap.size) w0 → va_S (va_A w0 s.heap.size) s.heap s.heap [] → Zs z (va_A w0 s.heap.size) s s.heap → ∀ ls : Array Slot, lv_has ls nL lv →
      W p l e rm s m As.toArray below meth c s.heap [] 0 0 (MQ below (QL D tys w0 w1 s.heap.size v) As.toArray s 0 0 (va_A w0 s.heap.size)) (F0 m 0 ls [])) : WrL z l y wl rm D tys w0 w1 As v := by
  intro sz
  refine Met.ofW (cc := cc) (maxL := nL) (ret := ret) hy hw ?_
  intro p e s m args below meth c s₁ B hml hv
  obtain ⟨rfl, rfl, hP, hK, hD, hZ⟩ := hv
  exact ent_W hfit hlv (body p e s m below meth c (Cx.ofB (by rw [hw]; rfl) B hml) hP hK (hD.self (sz := s.heap.size)) va_S.rf hZ)
theorem WrV.mk (lv : List (Nat × Value)) (hy : plainName y.cls = true) (hw : wl = Cond.code y cc nL ret :: wl') (hfit : (lg_sl As).length ≤ nL) (hlv : lv_args 0 As = lv)
    (body : ∀ (p : Program) (e : Env) (s : State) (m : MethodId) (below : List Frame) (meth : Method) (c : Code), Cx p s m meth c cc nL ret wl y.cls As.toArray → va_P D vwCl w0 s.heap → va_K D vwCl tys s → va_D (va_A w0 s.heap.size) w0 → va_S (va_A w0 s.heap.size) s.heap s.heap [] → Zs z (va_A w0 s.heap.size) s s.heap → ∀ ls : Array Slot, lv_has ls nL lv →
      W p l e rm s m As.toArray below meth c s.heap [] 0 0 (MQ below (QV D tys w0 w1 s.heap.size) As.toArray s 0 0 (va_A w0 s.heap.size)) (F0 m 0 ls [])) : WrV z l y wl rm D tys w0 w1 As := by
  intro sz
  refine Met.ofW (cc := cc) (maxL := nL) (ret := ret) hy hw ?_
  intro p e s m args below meth c s₁ B hml hv
  obtain ⟨rfl, rfl, hP, hK, hD, hZ⟩ := hv
  exact ent_W hfit hlv (body p e s m below meth c (Cx.ofB (by rw [hw]; rfl) B hml) hP hK (hD.self (sz := s.heap.size)) va_S.rf hZ)
end MyRules2
theorem fb_ro (D : va_G) (tys : List (ClassId × FieldType)) (ws : va_W) (As : List Value) : FrameBlind (Ro_P D tys ws As) := fun a U g mk q => by
  obtain ⟨q0, qP, qK⟩ := q
  exact ⟨q0, qP, va_K.moved (u := U) (U := U.calling g mk a) (Vm.Alike.refl U.vm) qK⟩
theorem fb_wr (z : Bool) (D : va_G) (tys : List (ClassId × FieldType)) (w0 : va_W) (As : List Value) (sz : Nat) : FrameBlind (Wr_P z D tys w0 As sz) := fun a U g mk q => by
  obtain ⟨q0, q1, qP, qK, qD, qZ⟩ := q
  exact ⟨q0, q1, qP, va_K.moved (u := U) (U := U.calling g mk a) (Vm.Alike.refl U.vm) qK, qD, qZ.moved (u := U) (U := U.calling g mk a) (Vm.Alike.refl U.vm)⟩
section MyCalls
variable {z : Bool} {p : Program} {l : Launch} {e : Env} {R : Room} {s : State} {m : MethodId} {args : Array Value} {below : List Frame} {meth : Method} {c : Code} {H H0 : Heap} {locs : List Loc} {cells slots : Nat} {Q : State → Prop}
variable {cc bytes : ByteArray} {nL maxL pc index : Nat} {ret rty : Option FieldType} {wl wy wy' : List Cond} {own C : String} {y : MethodName} {rm : Room} {D : va_G} {tys tys0 : List (ClassId × FieldType)} {ws wc w1 wr w2 : va_W} {As st rest : List Value} {ls : Array Slot} {b : Nat} {A0 : Nat → Prop}
/-- what a call needs of words and room -/
def CaB (R rm : Room) (own : String) (index : Nat) (y : MethodName) (bytes : ByteArray) (maxL : Nat) (rty : Option FieldType) (wy : List Cond) (n : Nat) : Prop :=
  rm.cells = 0 ∧ rm.slots = 0 ∧ wy.head? = some (Cond.code y bytes maxL rty) ∧ (y.cls ≠ "java/lang/invoke/MethodHandle" ∧ y.cls ≠ "java/lang/invoke/VarHandle" ∧ (parseMethodDescriptor y.desc).map (fun d => d.parameters.length) = some n) ∧ rm.frames + 1 ≤ R.frames ∧ 8 + (maxL + 11) + rm.locals ≤ R.locals
theorem caB {n : Nat} (hB : CaB R rm own index y bytes maxL rty wy n) (C0 : Cx p s m meth c cc nL ret wl own args) (hG : GoodIn wl wy) (hini : Cond.initialized y.cls ∈ wl) (hl : Cond.methodLink own index y ∈ wl) : CallB R s args own index y bytes maxL rty wy rm 0 0 n := by
  obtain ⟨h1, h2, h3, h4, h5, h6⟩ := hB
  obtain ⟨-, -, -, -, -, -, hts⟩ := C0
  refine callB_of n hts hG (ws' := wy.tail) ?_ h1 h2 (hts _ hini) (hts _ hl) h4 ⟨h5, h6⟩
  cases wy with
  | nil => cases h3
  | cons a t => cases h3; rfl
theorem roSi {n : Nat} {v : Int32} (C0 : Cx p s m meth c cc nL ret wl own args) (hM : RoI l y wy rm D tys wc As v) (hB : CaB R rm own index y bytes maxL rty wy n) (hG : GoodIn wl wy) (hini : Cond.initialized y.cls ∈ wl) (hl : Cond.methodLink own index y ∈ wl) (hst : Cond.static y ∈ wl)
    (hP : va_P D vwCl wc H) (hK : va_K D vwCl tys s) (hsz : ls.size = nL) (hn : As.length = n) (hstack : st = As.reverse ++ rest) (hW : (rest.map fun v => v.category).sum ≤ 8) (hdg : decode cc pc = .ok (.invokestatic index, 3)) (hf : cells ≤ R.cells ∧ slots ≤ R.slots)
    (kk : W p l e R s m args below meth c H locs cells slots Q (F0 m (pc + 3) ls (.int v :: rest))) : W p l e R s m args below meth c H locs cells slots Q (F0 m pc ls st) :=
  vp_callSi (W.runS (As := As) (rest := rest) ⟨C0.1, C0.2.1, C0.2.2.2.2.1, C0.2.2.2.2.2.1, C0.2.2.2.2.2.2⟩ hM ⟨caB hB C0 hG hini hl, C0.2.2.2.2.2.2 _ hst⟩ ⟨fb_ro _ _ _ _, fun U hU hW => ⟨rfl, by rw [hU]; exact hP, va_K.moved hW.alike hK⟩⟩ rfl hn hsz hstack (lv_room hW) hdg hf) (fun r hr => by rw [hr]; exact kk)
theorem roSl {n : Nat} {v : Int64} (C0 : Cx p s m meth c cc nL ret wl own args) (hM : RoL l y wy rm D tys wc As v) (hB : CaB R rm own index y bytes maxL rty wy n) (hG : GoodIn wl wy) (hini : Cond.initialized y.cls ∈ wl) (hl : Cond.methodLink own index y ∈ wl) (hst : Cond.static y ∈ wl)
    (hP : va_P D vwCl wc H) (hK : va_K D vwCl tys s) (hsz : ls.size = nL) (hn : As.length = n) (hstack : st = As.reverse ++ rest) (hW : (rest.map fun v => v.category).sum ≤ 8) (hdg : decode cc pc = .ok (.invokestatic index, 3)) (hf : cells ≤ R.cells ∧ slots ≤ R.slots)
    (kk : W p l e R s m args below meth c H locs cells slots Q (F0 m (pc + 3) ls (.long v :: rest))) : W p l e R s m args below meth c H locs cells slots Q (F0 m pc ls st) :=
  vp_callSl (W.runS (As := As) (rest := rest) ⟨C0.1, C0.2.1, C0.2.2.2.2.1, C0.2.2.2.2.2.1, C0.2.2.2.2.2.2⟩ hM ⟨caB hB C0 hG hini hl, C0.2.2.2.2.2.2 _ hst⟩ ⟨fb_ro _ _ _ _, fun U hU hW => ⟨rfl, by rw [hU]; exact hP, va_K.moved hW.alike hK⟩⟩ rfl hn hsz hstack (lv_room hW) hdg hf) (fun r hr => by rw [hr]; exact kk)
theorem roVi {n ci : Nat} {v : Int32} {qc : vw_C} {fs : List Value} (C0 : Cx p s m meth c cc nL ret wl own args) (hM : RoI l y wy rm D tys wc (.ref b :: As) v) (hB : CaB R rm own index y bytes maxL rty wy n) (hG : GoodIn wl wy) (hini : Cond.initialized y.cls ∈ wl) (hl : Cond.methodLink own index y ∈ wl) (hst : Cond.instanceMethod y ∈ wl) (hse : Cond.selects qc.1 y y ∈ wl)
    (hc : vwCl[ci]? = some qc) (he : wc[0]? = some (b, .inr (ci, fs)))
    (hP : va_P D vwCl wc H) (hK : va_K D vwCl tys s) (hsz : ls.size = nL) (hn : As.length = n) (hstack : st = As.reverse ++ .ref b :: rest) (hW : (rest.map fun v => v.category).sum ≤ 8) (hdg : decode cc pc = .ok (.invokevirtual index, 3)) (hf : cells ≤ R.cells ∧ slots ≤ R.slots)
    (kk : W p l e R s m args below meth c H locs cells slots Q (F0 m (pc + 3) ls (.int v :: rest))) : W p l e R s m args below meth c H locs cells slots Q (F0 m pc ls st) :=
  vp_callSi (W.runV (As := As) (rest := rest) ⟨C0.1, C0.2.1, C0.2.2.2.2.1, C0.2.2.2.2.2.1, C0.2.2.2.2.2.2⟩ hM ⟨caB hB C0 hG hini hl, C0.2.2.2.2.2.2 _ hst, C0.2.2.2.2.2.2 _ hse⟩ ⟨fb_ro _ _ _ _, va_recv hK hP hc he, fun U hU hW => ⟨rfl, by rw [hU]; exact hP, va_K.moved hW.alike hK⟩⟩ rfl hn hsz hstack (lv_room hW) hdg hf) (fun r hr => by rw [hr]; exact kk)
theorem roVl {n ci : Nat} {v : Int64} {qc : vw_C} {fs : List Value} (C0 : Cx p s m meth c cc nL ret wl own args) (hM : RoL l y wy rm D tys wc (.ref b :: As) v) (hB : CaB R rm own index y bytes maxL rty wy n) (hG : GoodIn wl wy) (hini : Cond.initialized y.cls ∈ wl) (hl : Cond.methodLink own index y ∈ wl) (hst : Cond.instanceMethod y ∈ wl) (hse : Cond.selects qc.1 y y ∈ wl)
    (hc : vwCl[ci]? = some qc) (he : wc[0]? = some (b, .inr (ci, fs)))
    (hP : va_P D vwCl wc H) (hK : va_K D vwCl tys s) (hsz : ls.size = nL) (hn : As.length = n) (hstack : st = As.reverse ++ .ref b :: rest) (hW : (rest.map fun v => v.category).sum ≤ 8) (hdg : decode cc pc = .ok (.invokevirtual index, 3)) (hf : cells ≤ R.cells ∧ slots ≤ R.slots)
    (kk : W p l e R s m args below meth c H locs cells slots Q (F0 m (pc + 3) ls (.long v :: rest))) : W p l e R s m args below meth c H locs cells slots Q (F0 m pc ls st) :=
  vp_callSl (W.runV (As := As) (rest := rest) ⟨C0.1, C0.2.1, C0.2.2.2.2.1, C0.2.2.2.2.2.1, C0.2.2.2.2.2.2⟩ hM ⟨caB hB C0 hG hini hl, C0.2.2.2.2.2.2 _ hst, C0.2.2.2.2.2.2 _ hse⟩ ⟨fb_ro _ _ _ _, va_recv hK hP hc he, fun U hU hW => ⟨rfl, by rw [hU]; exact hP, va_K.moved hW.alike hK⟩⟩ rfl hn hsz hstack (lv_room hW) hdg hf) (fun r hr => by rw [hr]; exact kk)
theorem roVr {n ci : Nat} {v : Nat} {qc : vw_C} {fs : List Value} (C0 : Cx p s m meth c cc nL ret wl own args) (hM : RoR l y wy rm D tys wc (.ref b :: As) v) (hB : CaB R rm own index y bytes maxL rty wy n) (hG : GoodIn wl wy) (hini : Cond.initialized y.cls ∈ wl) (hl : Cond.methodLink own index y ∈ wl) (hst : Cond.instanceMethod y ∈ wl) (hse : Cond.selects qc.1 y y ∈ wl)
    (hc : vwCl[ci]? = some qc) (he : wc[0]? = some (b, .inr (ci, fs)))
    (hP : va_P D vwCl wc H) (hK : va_K D vwCl tys s) (hsz : ls.size = nL) (hn : As.length = n) (hstack : st = As.reverse ++ .ref b :: rest) (hW : (rest.map fun v => v.category).sum ≤ 8) (hdg : decode cc pc = .ok (.invokevirtual index, 3)) (hf : cells ≤ R.cells ∧ slots ≤ R.slots)
    (kk : W p l e R s m args below meth c H locs cells slots Q (F0 m (pc + 3) ls (.ref v :: rest))) : W p l e R s m args below meth c H locs cells slots Q (F0 m pc ls st) :=
  va_csr (W.runV (As := As) (rest := rest) ⟨C0.1, C0.2.1, C0.2.2.2.2.1, C0.2.2.2.2.2.1, C0.2.2.2.2.2.2⟩ hM ⟨caB hB C0 hG hini hl, C0.2.2.2.2.2.2 _ hst, C0.2.2.2.2.2.2 _ hse⟩ ⟨fb_ro _ _ _ _, va_recv hK hP hc he, fun U hU hW => ⟨rfl, by rw [hU]; exact hP, va_K.moved hW.alike hK⟩⟩ rfl hn hsz hstack (lv_room hW) hdg hf) (fun r hr => by rw [hr]; exact kk)
/-- the cells behind a writing call, put back in the caller's order -/
theorem wr_back {t : State} {H1 : Heap} (hP : va_P D vwCl ws H) (hD : va_D A0 ws) (isC isR is2 : List Nat) (hC : isC.map (fun i => ws[i]?) = wc.map some) (hR : isR.map (fun i => ws[i]?) = wr.map some) (hn : va_nd isR = true) (hdis : ∀ i ∈ isR, i ∉ isC) (hn2 : va_nd is2 = true) (h2 : is2.map (fun i => (wr ++ w1)[i]?) = w2.map some)
    (hF : ∀ q, va_A wc H.size q → A0 q) (ht : t.heap = H1) (hk : ∀ q : Nat, q < H.size → ¬ va_A wc H.size q → H1[q]? = H[q]?) (hB : Wr_B D tys wc w1 H.size () t) : va_P D vwCl w2 H1 ∧ va_D A0 w2 := by
  obtain ⟨hP1, -, hD1⟩ := hB
  rw [ht] at hP1
  obtain ⟨gP, gD⟩ := va_join hP hD isC isR hC hR hn hdis hk hF hP1 hD1
  refine ⟨gP.sub is2 ?_, gD.sub is2 hn2 h2⟩
  clear hk hF hP1 hD1 gP gD hn2
  induction is2 generalizing w2 with
  | nil => cases w2 with
    | nil => rfl
    | cons a t => cases h2
  | cons i t ih => cases w2 with
    | nil => cases h2
    | cons a w => 
      simp only [List.map_cons, List.cons.injEq] at h2
      rw [List.filterMap_cons, h2.1, ih h2.2]
theorem wrVi {n ci : Nat} {v : Int32} {qc : vw_C} {fs : List Value} (C0 : Cx p s m meth c cc nL ret wl own args) (hM : WrI z l y wy rm D tys wc w1 (.ref b :: As) v) (hB : CaB R rm own index y bytes maxL rty wy n) (hG : GoodIn wl wy) (hini : Cond.initialized y.cls ∈ wl) (hl : Cond.methodLink own index y ∈ wl) (hst : Cond.instanceMethod y ∈ wl) (hse : Cond.selects qc.1 y y ∈ wl)
    (hc : vwCl[ci]? = some qc) (he : wc[0]? = some (b, .inr (ci, fs)))
    (hP : va_P D vwCl ws H) (hD : va_D A0 ws) (hK : va_K D vwCl tys s) (hS : va_S A0 H0 H locs) (hA : ∀ q, H0.size ≤ q → A0 q) (hZ : Zs z A0 s H0)
    (isC isR is2 : List Nat) (wr w2 : va_W) (hC : isC.map (fun i => ws[i]?) = wc.map some) (hnC : va_nd isC = true) (hPc : va_P D vwCl wc H) (hR : isR.map (fun i => ws[i]?) = wr.map some) (hn1 : va_nd isR = true) (hdis : ∀ i ∈ isR, i ∉ isC) (hn2 : va_nd is2 = true) (h2 : is2.map (fun i => (wr ++ w1)[i]?) = w2.map some)
    (hsz : ls.size = nL) (hn : As.length = n) (hstack : st = As.reverse ++ .ref b :: rest) (hW : (rest.map fun v => v.category).sum ≤ 8) (hdg : decode cc pc = .ok (.invokevirtual index, 3)) (hf : cells ≤ R.cells ∧ slots ≤ R.slots)
    (kk : ∀ (H1 : Heap) (locs1 : List Loc), va_P D vwCl w2 H1 → va_D A0 w2 → va_S A0 H0 H1 locs1 → W p l e R s m args below meth c H1 locs1 cells slots Q (F0 m (pc + 3) ls (.int v :: rest))) : W p l e R s m args below meth c H locs cells slots Q (F0 m pc ls st) := by
  have hFc := va_free (wc := wc) hD hS hA isC hC
  refine va_calli (va_runV (As := As) (rest := rest) ⟨C0.1, C0.2.1, C0.2.2.2.2.1, C0.2.2.2.2.2.1, C0.2.2.2.2.2.2⟩ (hM H.size) ⟨caB hB C0 hG hini hl, C0.2.2.2.2.2.2 _ hst, C0.2.2.2.2.2.2 _ hse⟩ ⟨fb_wr _ _ _ _ _ _, va_recv hK hPc hc he, fun U hU hW => ⟨rfl, by rw [hU], by rw [hU]; exact hPc, va_K.moved hW.alike hK, (hD.sub isC hnC hC).weaken (fun _ _ _ _ => trivial), by rw [hU]; exact ((hZ.kept hS.2.1).narrow hFc).moved hW.alike⟩⟩ rfl hn hsz hstack (lv_room hW) hdg hf) hS (fun q _ h => hFc q h) hFc (fun r u t H1 locs1 ht hvm hw hBt hz hk hS1 => ?_)
  obtain ⟨g1, g2⟩ := wr_back hP hD isC isR is2 hC hR hn1 hdis hn2 h2 hFc ht hk hBt
  rw [hw]
  exact kk H1 locs1 g1 g2 hS1
theorem wrVl {n ci : Nat} {v : Int64} {qc : vw_C} {fs : List Value} (C0 : Cx p s m meth c cc nL ret wl own args) (hM : WrL z l y wy rm D tys wc w1 (.ref b :: As) v) (hB : CaB R rm own index y bytes maxL rty wy n) (hG : GoodIn wl wy) (hini : Cond.initialized y.cls ∈ wl) (hl : Cond.methodLink own index y ∈ wl) (hst : Cond.instanceMethod y ∈ wl) (hse : Cond.selects qc.1 y y ∈ wl)
    (hc : vwCl[ci]? = some qc) (he : wc[0]? = some (b, .inr (ci, fs)))
    (hP : va_P D vwCl ws H) (hD : va_D A0 ws) (hK : va_K D vwCl tys s) (hS : va_S A0 H0 H locs) (hA : ∀ q, H0.size ≤ q → A0 q) (hZ : Zs z A0 s H0)
    (isC isR is2 : List Nat) (wr w2 : va_W) (hC : isC.map (fun i => ws[i]?) = wc.map some) (hnC : va_nd isC = true) (hPc : va_P D vwCl wc H) (hR : isR.map (fun i => ws[i]?) = wr.map some) (hn1 : va_nd isR = true) (hdis : ∀ i ∈ isR, i ∉ isC) (hn2 : va_nd is2 = true) (h2 : is2.map (fun i => (wr ++ w1)[i]?) = w2.map some)
    (hsz : ls.size = nL) (hn : As.length = n) (hstack : st = As.reverse ++ .ref b :: rest) (hW : (rest.map fun v => v.category).sum ≤ 8) (hdg : decode cc pc = .ok (.invokevirtual index, 3)) (hf : cells ≤ R.cells ∧ slots ≤ R.slots)
    (kk : ∀ (H1 : Heap) (locs1 : List Loc), va_P D vwCl w2 H1 → va_D A0 w2 → va_S A0 H0 H1 locs1 → W p l e R s m args below meth c H1 locs1 cells slots Q (F0 m (pc + 3) ls (.long v :: rest))) : W p l e R s m args below meth c H locs cells slots Q (F0 m pc ls st) := by
  have hFc := va_free (wc := wc) hD hS hA isC hC
  refine va_calll (va_runV (As := As) (rest := rest) ⟨C0.1, C0.2.1, C0.2.2.2.2.1, C0.2.2.2.2.2.1, C0.2.2.2.2.2.2⟩ (hM H.size) ⟨caB hB C0 hG hini hl, C0.2.2.2.2.2.2 _ hst, C0.2.2.2.2.2.2 _ hse⟩ ⟨fb_wr _ _ _ _ _ _, va_recv hK hPc hc he, fun U hU hW => ⟨rfl, by rw [hU], by rw [hU]; exact hPc, va_K.moved hW.alike hK, (hD.sub isC hnC hC).weaken (fun _ _ _ _ => trivial), by rw [hU]; exact ((hZ.kept hS.2.1).narrow hFc).moved hW.alike⟩⟩ rfl hn hsz hstack (lv_room hW) hdg hf) hS (fun q _ h => hFc q h) hFc (fun r u t H1 locs1 ht hvm hw hBt hz hk hS1 => ?_)
  obtain ⟨g1, g2⟩ := wr_back hP hD isC isR is2 hC hR hn1 hdis hn2 h2 hFc ht hk hBt
  rw [hw]
  exact kk H1 locs1 g1 g2 hS1
theorem wrVv {n ci : Nat} {qc : vw_C} {fs : List Value} (C0 : Cx p s m meth c cc nL ret wl own args) (hM : WrV z l y wy rm D tys wc w1 (.ref b :: As)) (hB : CaB R rm own index y bytes maxL rty wy n) (hG : GoodIn wl wy) (hini : Cond.initialized y.cls ∈ wl) (hl : Cond.methodLink own index y ∈ wl) (hst : Cond.instanceMethod y ∈ wl) (hse : Cond.selects qc.1 y y ∈ wl)
    (hc : vwCl[ci]? = some qc) (he : wc[0]? = some (b, .inr (ci, fs)))
    (hP : va_P D vwCl ws H) (hD : va_D A0 ws) (hK : va_K D vwCl tys s) (hS : va_S A0 H0 H locs) (hA : ∀ q, H0.size ≤ q → A0 q) (hZ : Zs z A0 s H0)
    (isC isR is2 : List Nat) (wr w2 : va_W) (hC : isC.map (fun i => ws[i]?) = wc.map some) (hnC : va_nd isC = true) (hPc : va_P D vwCl wc H) (hR : isR.map (fun i => ws[i]?) = wr.map some) (hn1 : va_nd isR = true) (hdis : ∀ i ∈ isR, i ∉ isC) (hn2 : va_nd is2 = true) (h2 : is2.map (fun i => (wr ++ w1)[i]?) = w2.map some)
    (hsz : ls.size = nL) (hn : As.length = n) (hstack : st = As.reverse ++ .ref b :: rest) (hW : (rest.map fun v => v.category).sum ≤ 8) (hdg : decode cc pc = .ok (.invokevirtual index, 3)) (hf : cells ≤ R.cells ∧ slots ≤ R.slots)
    (kk : ∀ (H1 : Heap) (locs1 : List Loc), va_P D vwCl w2 H1 → va_D A0 w2 → va_S A0 H0 H1 locs1 → W p l e R s m args below meth c H1 locs1 cells slots Q (F0 m (pc + 3) ls rest)) : W p l e R s m args below meth c H locs cells slots Q (F0 m pc ls st) := by
  have hFc := va_free (wc := wc) hD hS hA isC hC
  refine va_callv (va_runV (As := As) (rest := rest) ⟨C0.1, C0.2.1, C0.2.2.2.2.1, C0.2.2.2.2.2.1, C0.2.2.2.2.2.2⟩ (hM H.size) ⟨caB hB C0 hG hini hl, C0.2.2.2.2.2.2 _ hst, C0.2.2.2.2.2.2 _ hse⟩ ⟨fb_wr _ _ _ _ _ _, va_recv hK hPc hc he, fun U hU hW => ⟨rfl, by rw [hU], by rw [hU]; exact hPc, va_K.moved hW.alike hK, (hD.sub isC hnC hC).weaken (fun _ _ _ _ => trivial), by rw [hU]; exact ((hZ.kept hS.2.1).narrow hFc).moved hW.alike⟩⟩ rfl hn hsz hstack (lv_room hW) hdg hf) hS (fun q _ h => hFc q h) hFc (fun u t H1 locs1 ht hvm hw hBt hz hk hS1 => ?_)
  obtain ⟨g1, g2⟩ := wr_back hP hD isC isR is2 hC hR hn1 hdis hn2 h2 hFc ht hk hBt
  exact kk H1 locs1 g1 g2 hS1
theorem wrSv {n : Nat} (C0 : Cx p s m meth c cc nL ret wl own args) (hM : WrV z l y wy rm D tys wc w1 As) (hB : CaB R rm own index y bytes maxL rty wy n) (hG : GoodIn wl wy) (hini : Cond.initialized y.cls ∈ wl) (hl : Cond.methodLink own index y ∈ wl) (hst : Cond.static y ∈ wl)
    (hP : va_P D vwCl ws H) (hD : va_D A0 ws) (hK : va_K D vwCl tys s) (hS : va_S A0 H0 H locs) (hA : ∀ q, H0.size ≤ q → A0 q) (hZ : Zs z A0 s H0)
    (isC isR is2 : List Nat) (wr w2 : va_W) (hC : isC.map (fun i => ws[i]?) = wc.map some) (hnC : va_nd isC = true) (hPc : va_P D vwCl wc H) (hR : isR.map (fun i => ws[i]?) = wr.map some) (hn1 : va_nd isR = true) (hdis : ∀ i ∈ isR, i ∉ isC) (hn2 : va_nd is2 = true) (h2 : is2.map (fun i => (wr ++ w1)[i]?) = w2.map some)
    (hsz : ls.size = nL) (hn : As.length = n) (hstack : st = As.reverse ++ rest) (hW : (rest.map fun v => v.category).sum ≤ 8) (hdg : decode cc pc = .ok (.invokestatic index, 3)) (hf : cells ≤ R.cells ∧ slots ≤ R.slots)
    (kk : ∀ (H1 : Heap) (locs1 : List Loc), va_P D vwCl w2 H1 → va_D A0 w2 → va_S A0 H0 H1 locs1 → W p l e R s m args below meth c H1 locs1 cells slots Q (F0 m (pc + 3) ls rest)) : W p l e R s m args below meth c H locs cells slots Q (F0 m pc ls st) := by
  have hFc := va_free (wc := wc) hD hS hA isC hC
  refine va_callv (va_runS (As := As) (rest := rest) ⟨C0.1, C0.2.1, C0.2.2.2.2.1, C0.2.2.2.2.2.1, C0.2.2.2.2.2.2⟩ (hM H.size) ⟨caB hB C0 hG hini hl, C0.2.2.2.2.2.2 _ hst⟩ ⟨fb_wr _ _ _ _ _ _, fun U hU hW => ⟨rfl, by rw [hU], by rw [hU]; exact hPc, va_K.moved hW.alike hK, (hD.sub isC hnC hC).weaken (fun _ _ _ _ => trivial), by rw [hU]; exact ((hZ.kept hS.2.1).narrow hFc).moved hW.alike⟩⟩ rfl hn hsz hstack (lv_room hW) hdg hf) hS (fun q _ h => hFc q h) hFc (fun u t H1 locs1 ht hvm hw hBt hz hk hS1 => ?_)
  obtain ⟨g1, g2⟩ := wr_back hP hD isC isR is2 hC hR hn1 hdis hn2 h2 hFc ht hk hBt
  exact kk H1 locs1 g1 g2 hS1
/-- the ends -/
theorem roRetI {v V : Int32} (C0 : Cx p s m meth c cc nL (some .int) wl own args) (hv : v = V) (hdg : decode cc pc = .ok (.ireturn, 1)) : W p l e R s m args below meth c s.heap [] 0 0 (MQ below (vp_Si (fun r => r = V)) args s 0 0 (fun _ => False)) (F0 m pc ls [.int v]) := by
  obtain ⟨hx, hb, hr, hlocks, -, -, -⟩ := C0
  exact W.iret (v := v) hx hb hr (fun t ht hW => ⟨v, rfl, hv, ht⟩) (fun q h => by cases h) hdg
theorem roRetL {v V : Int64} (C0 : Cx p s m meth c cc nL (some .long) wl own args) (hv : v = V) (hdg : decode cc pc = .ok (.lreturn, 1)) : W p l e R s m args below meth c s.heap [] 0 0 (MQ below (vp_Sl (fun r => r = V)) args s 0 0 (fun _ => False)) (F0 m pc ls [.long v]) := by
  obtain ⟨hx, hb, hr, hlocks, -, -, -⟩ := C0
  exact W.lret (v := v) hx hb hr (fun t ht hW => ⟨v, rfl, hv, ht⟩) (fun q h => by cases h) hdg
theorem wrRetI {v V : Int32} {w0 w1 : va_W} (C0 : Cx p s m meth c cc nL (some .int) wl own args) (hK : va_K D vwCl tys s) (hv : v = V) (hP : va_P D vwCl w1 H) (hD : va_D (va_A w0 s.heap.size) w1) (hS : va_S (va_A w0 s.heap.size) s.heap H locs) (hdg : decode cc pc = .ok (.ireturn, 1)) : W p l e R s m args below meth c H locs 0 0 (MQ below (QI D tys w0 w1 s.heap.size V) args s 0 0 (va_A w0 s.heap.size)) (F0 m pc ls [.int v]) := by
  obtain ⟨hx, hb, hr, hlocks, -, -, -⟩ := C0
  exact W.iret (v := v) hx hb hr (fun t ht hW => ⟨⟨v, (), rfl, hv, by rw [ht]; exact hP, va_K.moved hW.alike hK, hD⟩, hS.F ht⟩) hS.2.2 hdg
theorem wrRetL {v V : Int64} {w0 w1 : va_W} (C0 : Cx p s m meth c cc nL (some .long) wl own args) (hK : va_K D vwCl tys s) (hv : v = V) (hP : va_P D vwCl w1 H) (hD : va_D (va_A w0 s.heap.size) w1) (hS : va_S (va_A w0 s.heap.size) s.heap H locs) (hdg : decode cc pc = .ok (.lreturn, 1)) : W p l e R s m args below meth c H locs 0 0 (MQ below (QL D tys w0 w1 s.heap.size V) args s 0 0 (va_A w0 s.heap.size)) (F0 m pc ls [.long v]) := by
  obtain ⟨hx, hb, hr, hlocks, -, -, -⟩ := C0
  exact W.lret (v := v) hx hb hr (fun t ht hW => ⟨⟨v, (), rfl, hv, by rw [ht]; exact hP, va_K.moved hW.alike hK, hD⟩, hS.F ht⟩) hS.2.2 hdg
theorem wrRetV {w0 w1 : va_W} (C0 : Cx p s m meth c cc nL none wl own args) (hK : va_K D vwCl tys s) (hP : va_P D vwCl w1 H) (hD : va_D (va_A w0 s.heap.size) w1) (hS : va_S (va_A w0 s.heap.size) s.heap H locs) (hdg : decode cc pc = .ok (.return_, 1)) : W p l e R s m args below meth c H locs 0 0 (MQ below (QV D tys w0 w1 s.heap.size) args s 0 0 (va_A w0 s.heap.size)) (F0 m pc ls []) := by
  obtain ⟨hx, hb, hr, hlocks, -, -, -⟩ := C0
  exact W.vret hx hb hr (fun t ht hW => ⟨⟨(), rfl, trivial, by rw [ht]; exact hP, va_K.moved hW.alike hK, hD⟩, hS.F ht⟩) hS.2.2 hdg
theorem roRetZ {v V : Int32} (C0 : Cx p s m meth c cc nL (some .boolean) wl own args) (hn : narrow .boolean (.int v) = .int v) (hv : v = V) (hdg : decode cc pc = .ok (.ireturn, 1)) : W p l e R s m args below meth c s.heap [] 0 0 (MQ below (vp_Si (fun r => r = V)) args s 0 0 (fun _ => False)) (F0 m pc ls [.int v]) := by
  obtain ⟨hx, hb, hr, hlocks, -, -, -⟩ := C0
  exact W.zret (v := v) hx hb hr hn (fun t ht hW => ⟨v, rfl, hv, ht⟩) (fun q h => by cases h) hdg
theorem roRetR {a V : Nat} {o : String} (C0 : Cx p s m meth c cc nL (some (.object o)) wl own args) (hv : a = V) (hdg : decode cc pc = .ok (.areturn, 1)) : W p l e R s m args below meth c s.heap [] 0 0 (MQ below (va_Sr (fun r => r = V) (fun k => Value.ref k)) args s 0 0 (fun _ => False)) (F0 m pc ls [.ref a]) := by
  obtain ⟨hx, hb, hr, hlocks, -, -, -⟩ := C0
  exact W.aret (v := .ref a) hx hb hr (Or.inl ⟨_, rfl⟩) (Or.inr ⟨_, rfl⟩) (fun t ht hW => ⟨a, rfl, hv, ht⟩) (fun q h => by cases h) hdg
theorem wrRetZ {v V : Int32} {w0 w1 : va_W} (C0 : Cx p s m meth c cc nL (some .boolean) wl own args) (hK : va_K D vwCl tys s) (hn : narrow .boolean (.int v) = .int v) (hv : v = V) (hP : va_P D vwCl w1 H) (hD : va_D (va_A w0 s.heap.size) w1) (hS : va_S (va_A w0 s.heap.size) s.heap H locs) (hdg : decode cc pc = .ok (.ireturn, 1)) : W p l e R s m args below meth c H locs 0 0 (MQ below (QI D tys w0 w1 s.heap.size V) args s 0 0 (va_A w0 s.heap.size)) (F0 m pc ls [.int v]) := by
  obtain ⟨hx, hb, hr, hlocks, -, -, -⟩ := C0
  exact W.zret (v := v) hx hb hr hn (fun t ht hW => ⟨⟨v, (), rfl, hv, by rw [ht]; exact hP, va_K.moved hW.alike hK, hD⟩, hS.F ht⟩) hS.2.2 hdg
end MyCalls
theorem vpd {i : Int32} {n : Nat} (h : ¬ (i < 0 ∨ n ≤ i.toNatClampNeg)) : vp_in i n := h
section MyCmp
variable {p : Program} {l : Launch} {e : Env} {R : Room} {s : State} {m : MethodId} {args : Array Value} {below : List Frame} {meth : Method} {c : Code} {H : Heap} {locs : List Loc} {cells slots : Nat} {Q : State → Prop}
variable {cc : ByteArray} {pc tgt : Nat} {off : Int} {ls : Array Slot} {rest : List Value} {x y : Int64}
theorem lc_eq (hx : p.tables.exec = Jvm.exec) (hb : c.code = cc) (h1 : decode cc pc = .ok (.lcmp, 1)) (h2 : decode cc (pc + 1) = .ok (.ifCond .eq off, 3)) (ht : ((pc + 1 : Nat) : Int) + off = (tgt : Int))
    (kt : x = y → W p l e R s m args below meth c H locs cells slots Q (F0 m tgt ls rest)) (kf : ¬ x = y → W p l e R s m args below meth c H locs cells slots Q (F0 m (pc + 4) ls rest)) : W p l e R s m args below meth c H locs cells slots Q (F0 m pc ls (.long y :: .long x :: rest)) :=
  W.lcmp hx hb h1 (lv_if_eq hx hb h2 ht (fun h => kt ((lg_cmp_eq x y).mp h)) (fun h => kf (fun q => h ((lg_cmp_eq x y).mpr q))))
theorem lc_ne (hx : p.tables.exec = Jvm.exec) (hb : c.code = cc) (h1 : decode cc pc = .ok (.lcmp, 1)) (h2 : decode cc (pc + 1) = .ok (.ifCond .ne off, 3)) (ht : ((pc + 1 : Nat) : Int) + off = (tgt : Int))
    (kt : ¬ x = y → W p l e R s m args below meth c H locs cells slots Q (F0 m tgt ls rest)) (kf : x = y → W p l e R s m args below meth c H locs cells slots Q (F0 m (pc + 4) ls rest)) : W p l e R s m args below meth c H locs cells slots Q (F0 m pc ls (.long y :: .long x :: rest)) :=
  W.lcmp hx hb h1 (lv_if_ne hx hb h2 ht (fun h => kt (fun q => h ((lg_cmp_eq x y).mpr q))) (fun h => kf ((lg_cmp_eq x y).mp h)))
theorem lc_lt (hx : p.tables.exec = Jvm.exec) (hb : c.code = cc) (h1 : decode cc pc = .ok (.lcmp, 1)) (h2 : decode cc (pc + 1) = .ok (.ifCond .lt off, 3)) (ht : ((pc + 1 : Nat) : Int) + off = (tgt : Int))
    (kt : x < y → W p l e R s m args below meth c H locs cells slots Q (F0 m tgt ls rest)) (kf : ¬ x < y → W p l e R s m args below meth c H locs cells slots Q (F0 m (pc + 4) ls rest)) : W p l e R s m args below meth c H locs cells slots Q (F0 m pc ls (.long y :: .long x :: rest)) :=
  W.lcmp hx hb h1 (lv_if_lt hx hb h2 ht (fun h => kt ((lg_cmp_lt x y).mp h)) (fun h => kf (fun q => h ((lg_cmp_lt x y).mpr q))))
theorem lc_le (hx : p.tables.exec = Jvm.exec) (hb : c.code = cc) (h1 : decode cc pc = .ok (.lcmp, 1)) (h2 : decode cc (pc + 1) = .ok (.ifCond .le off, 3)) (ht : ((pc + 1 : Nat) : Int) + off = (tgt : Int))
    (kt : x ≤ y → W p l e R s m args below meth c H locs cells slots Q (F0 m tgt ls rest)) (kf : ¬ x ≤ y → W p l e R s m args below meth c H locs cells slots Q (F0 m (pc + 4) ls rest)) : W p l e R s m args below meth c H locs cells slots Q (F0 m pc ls (.long y :: .long x :: rest)) :=
  W.lcmp hx hb h1 (lv_if_le hx hb h2 ht (fun h => kt ((lg_cmp_le x y).mp h)) (fun h => kf (fun q => h ((lg_cmp_le x y).mpr q))))
theorem lc_gt (hx : p.tables.exec = Jvm.exec) (hb : c.code = cc) (h1 : decode cc pc = .ok (.lcmp, 1)) (h2 : decode cc (pc + 1) = .ok (.ifCond .gt off, 3)) (ht : ((pc + 1 : Nat) : Int) + off = (tgt : Int))
    (kt : y < x → W p l e R s m args below meth c H locs cells slots Q (F0 m tgt ls rest)) (kf : ¬ y < x → W p l e R s m args below meth c H locs cells slots Q (F0 m (pc + 4) ls rest)) : W p l e R s m args below meth c H locs cells slots Q (F0 m pc ls (.long y :: .long x :: rest)) :=
  W.lcmp hx hb h1 (lv_if_gt hx hb h2 ht (fun h => kt ((lg_cmp_gt x y).mp h)) (fun h => kf (fun q => h ((lg_cmp_gt x y).mpr q))))
theorem lc_ge (hx : p.tables.exec = Jvm.exec) (hb : c.code = cc) (h1 : decode cc pc = .ok (.lcmp, 1)) (h2 : decode cc (pc + 1) = .ok (.ifCond .ge off, 3)) (ht : ((pc + 1 : Nat) : Int) + off = (tgt : Int))
    (kt : y ≤ x → W p l e R s m args below meth c H locs cells slots Q (F0 m tgt ls rest)) (kf : ¬ y ≤ x → W p l e R s m args below meth c H locs cells slots Q (F0 m (pc + 4) ls rest)) : W p l e R s m args below meth c H locs cells slots Q (F0 m pc ls (.long y :: .long x :: rest)) :=
  W.lcmp hx hb h1 (lv_if_ge hx hb h2 ht (fun h => kt ((lg_cmp_ge x y).mp h)) (fun h => kf (fun q => h ((lg_cmp_ge x y).mpr q))))
end MyCmp
end
section
-- words for ranges
def R8 (x : Int32) : Prop := ∃ n : Nat, n < 8 ∧ x = nI n
theorem R8.x {x : Int32} (h : R8 x) : vp_in x 24 := by
  obtain ⟨n, h1, rfl⟩ := h
  exact vp_in_nI (by omega) (by decide)
theorem R8.a {x : Int32} (h : R8 x) : vp_in ((8 : Int32) + x) 24 := by
  obtain ⟨n, h1, rfl⟩ := h
  rw [show (8 : Int32) = nI 8 from rfl, nI_add]
  exact vp_in_nI (by omega) (by decide)
theorem R8.b {x : Int32} (h : R8 x) : vp_in ((16 : Int32) + x) 24 := by
  obtain ⟨n, h1, rfl⟩ := h
  rw [show (16 : Int32) = nI 16 from rfl, nI_add]
  exact vp_in_nI (by omega) (by decide)
/-- a counted loop: i goes up to N, there is fuel for it -/
def Lp (N i : Int32) (fuel : Nat) : Prop := ∃ t S : Nat, N = nI S ∧ i = nI t ∧ t ≤ S ∧ S < t + fuel ∧ S < 2 ^ 31
theorem Lp.zero {N i : Int32} : ¬ Lp N i 0 := fun ⟨t, S, _, _, h1, h2, _⟩ => by omega
theorem Lp.lt {N i : Int32} {f : Nat} (h : Lp N i f) (c : ¬ N ≤ i) : ∃ t S : Nat, N = nI S ∧ i = nI t ∧ t < S ∧ S < t + f ∧ S < 2 ^ 31 := by
  obtain ⟨t, S, rfl, rfl, h1, h2, h3⟩ := h
  refine ⟨t, S, rfl, rfl, ?_, h2, h3⟩
  rcases Nat.lt_or_ge t S with q | q
  · exact q
  · exact absurd (nI_le q (by omega)) c
theorem Lp.step {N i : Int32} {f : Nat} (h : Lp N i (f + 1)) (c : ¬ N ≤ i) : Lp N (i + (1 : Int32)) f := by
  obtain ⟨t, S, h1, rfl, h3, h4, h5⟩ := h.lt c
  exact ⟨t + 1, S, h1, nI_1 t, h3, by omega, h5⟩
theorem Lp.start {N : Int32} {f : Nat} (S : Nat) (h : N = nI S) (h1 : S < f) (h2 : S < 2 ^ 31) : Lp N (0 : Int32) f := ⟨0, S, h, rfl, Nat.zero_le _, by omega, h2⟩
theorem Lp.in {N i : Int32} {f k : Nat} (h : Lp N i f) (c : ¬ N ≤ i) (hk : ∀ S : Nat, S < 2 ^ 31 → N = nI S → S ≤ k) (h31 : k < 2 ^ 31) : vp_in i k := by
  obtain ⟨t, S, h1, rfl, h3, h4, h5⟩ := h.lt c
  exact vp_in_nI (Nat.lt_of_lt_of_le h3 (hk S h5 h1)) h31
theorem nI_inj {a b : Nat} (ha : a < 2 ^ 31) (hb : b < 2 ^ 31) (h : nI a = nI b) : a = b := (nI_eq ha hb).mp h
/-- a list of at most three registers -/
def LOk (S : Int32) (f : Nat → Int32) : Prop := (∃ n : Nat, n ≤ 3 ∧ S = nI n) ∧ ∀ j, j < 3 → vp_in (f j) 24
theorem LOk.size {S : Int32} {f : Nat → Int32} (h : LOk S f) (c : ¬ (3 : Int32) ≤ S) : vp_in S 3 := by
  obtain ⟨n, h1, h2⟩ := h.1
  subst h2
  refine vp_in_nI ?_ (by decide)
  rcases Nat.lt_or_ge n 3 with q | q
  · exact q
  · exact absurd (show nI 3 ≤ nI n from nI_le q (by omega)) c
theorem LOk.lp {S : Int32} {f : Nat → Int32} (h : LOk S f) : Lp S (0 : Int32) 4 := by
  obtain ⟨n, h1, h2⟩ := h.1
  exact Lp.start n h2 (by omega) (by omega)
theorem LOk.inl {S i : Int32} {f : Nat → Int32} {q : Nat} (h : LOk S f) (g : Lp S i q) (c : ¬ S ≤ i) : vp_in i 3 := by
  obtain ⟨n, h1, h2⟩ := h.1
  refine g.in c (fun S' hS e => ?_) (by decide)
  have := nI_inj (by omega) hS (h2.symm.trans e)
  omega
theorem LOk.num {S i : Int32} {f : Nat → Int32} {q : Nat} (h : LOk S f) (g : Lp S i q) (c : ¬ S ≤ i) : vp_in (f i.toNatClampNeg) 24 := by
  have hi := h.inl g c
  refine h.2 _ ?_
  exact Nat.not_le.mp fun z => hi (Or.inr z)
end
section
-- X4_isShortNegative
def F_X4_isShortNegative (a : Int64) : Int32 :=
  (if a ≤ (131071 : Int64) then (0 : Int32) else (1 : Int32))
abbrev rm_X4_isShortNegative : Room := { frames := 0, cells := 0, slots := 0, locals := 0 }
set_option maxRecDepth 20000 in
theorem mm_X4_isShortNegative_k15 : Cond.constantLong RX4 15 (131071) ∈ wsX4_isShortNegative := by decide +kernel
set_option maxHeartbeats 4000000 in
set_option maxRecDepth 100000 in
theorem w_X4_isShortNegative {p : Program} {l : Launch} {e : Env} {s : State} {m : MethodId} {below : List Frame} {meth : Method} {c : Code} {args : Array Value} (dC : Nat → ClassId) (dI : Nat → Nat → Nat) (cI cJ : ClassId) (a : Int64) (C0 : Cx p s m meth c cX4_isShortNegative 2 (some .boolean) wsX4_isShortNegative RX4 args) (hK : va_K (dC, dI) vwCl [(cI, .int), (cJ, .long)] s) (hP : va_P (dC, dI) vwCl [] s.heap) {V : Int32} (hV : (F_X4_isShortNegative a ) = V) (ls : Array Slot) (hl : lv_has ls 2 [(0, .long a)]) : W p l e rm_X4_isShortNegative s m args below meth c s.heap [] 0 0 (MQ below (vp_Si (fun r => r = V)) args s 0 0 (fun _ => False)) (F0 m 0 ls []) := by
  obtain ⟨hx, hb, hr, hlk, hml, hown, hts⟩ := id C0
  refine lv_lload_n hx hb dX4_isShortNegative_0 rfl (lv_at hl 0 rfl) ?_
  refine lv_ldc2 (v := (131071 : Int64)) hx hb hown (hts _ mm_X4_isShortNegative_k15) dX4_isShortNegative_1 ?_
  refine lc_le (x := a) (y := (131071 : Int64)) (tgt := 12) hx hb dX4_isShortNegative_4 dX4_isShortNegative_5 (by decide) (fun c1 => ?_) (fun c1 => ?_)
  · refine lv_iconst (v := (0 : Int32)) hx hb dX4_isShortNegative_12 (by decide) ?_
    have e9 : (F_X4_isShortNegative a ) = (0 : Int32) := by rw [F_X4_isShortNegative, if_pos c1]
    rw [e9] at hV
    subst hV
    exact roRetZ C0 rfl rfl dX4_isShortNegative_13
  · refine lv_iconst (v := (1 : Int32)) hx hb dX4_isShortNegative_8 (by decide) ?_
    refine lv_goto (tgt := 13) hx hb dX4_isShortNegative_9 (by decide) ?_
    have e9 : (F_X4_isShortNegative a ) = (1 : Int32) := by rw [F_X4_isShortNegative, if_neg c1]
    rw [e9] at hV
    subst hV
    exact roRetZ C0 rfl rfl dX4_isShortNegative_13
theorem c_X4_isShortNegative (l : Launch) (dC : Nat → ClassId) (dI : Nat → Nat → Nat) (cI cJ : ClassId) (a : Int64) : RoI l yX4_isShortNegative wsX4_isShortNegative rm_X4_isShortNegative (dC, dI) [(cI, .int), (cJ, .long)] [] [.long a] (F_X4_isShortNegative a ) := by
  refine RoI.mk (cc := cX4_isShortNegative) (nL := 2) (ret := (some .boolean)) [(0, .long a)] (by decide) rfl (Nat.le_of_ble_eq_true rfl) rfl ?_
  intro p e s m below meth c C0 hP hK ls hl
  exact w_X4_isShortNegative dC dI cI cJ a C0 hK hP rfl ls hl

-- X4_isNegative
def F_X4_isNegative (a : Int64) : Int32 :=
  (if ((a >>> ((59 : Int32).toInt64 &&& 63)) &&& (1 : Int64)) = (0 : Int64) then (0 : Int32) else (1 : Int32))
abbrev rm_X4_isNegative : Room := { frames := 0, cells := 0, slots := 0, locals := 0 }
set_option maxHeartbeats 4000000 in
set_option maxRecDepth 100000 in
theorem w_X4_isNegative {p : Program} {l : Launch} {e : Env} {s : State} {m : MethodId} {below : List Frame} {meth : Method} {c : Code} {args : Array Value} (dC : Nat → ClassId) (dI : Nat → Nat → Nat) (cI cJ : ClassId) (a : Int64) (C0 : Cx p s m meth c cX4_isNegative 2 (some .boolean) wsX4_isNegative RX4 args) (hK : va_K (dC, dI) vwCl [(cI, .int), (cJ, .long)] s) (hP : va_P (dC, dI) vwCl [] s.heap) {V : Int32} (hV : (F_X4_isNegative a ) = V) (ls : Array Slot) (hl : lv_has ls 2 [(0, .long a)]) : W p l e rm_X4_isNegative s m args below meth c s.heap [] 0 0 (MQ below (vp_Si (fun r => r = V)) args s 0 0 (fun _ => False)) (F0 m 0 ls []) := by
  obtain ⟨hx, hb, hr, hlk, hml, hown, hts⟩ := id C0
  refine lv_lload_n hx hb dX4_isNegative_0 rfl (lv_at hl 0 rfl) ?_
  refine lv_bipush (v := (59 : Int32)) hx hb dX4_isNegative_1 (by decide) ?_
  refine lv_lshr hx hb dX4_isNegative_3 rfl ?_
  refine lv_lconst (v := (1 : Int64)) hx hb dX4_isNegative_4 (by decide) ?_
  refine lv_land hx hb dX4_isNegative_5 ?_
  refine lv_lconst (v := (0 : Int64)) hx hb dX4_isNegative_6 (by decide) ?_
  refine lc_eq (x := ((a >>> ((59 : Int32).toInt64 &&& 63)) &&& (1 : Int64))) (y := (0 : Int64)) (tgt := 15) hx hb dX4_isNegative_7 dX4_isNegative_8 (by decide) (fun c1 => ?_) (fun c1 => ?_)
  · refine lv_iconst (v := (0 : Int32)) hx hb dX4_isNegative_15 (by decide) ?_
    have e9 : (F_X4_isNegative a ) = (0 : Int32) := by rw [F_X4_isNegative, if_pos c1]
    rw [e9] at hV
    subst hV
    exact roRetZ C0 rfl rfl dX4_isNegative_16
  · refine lv_iconst (v := (1 : Int32)) hx hb dX4_isNegative_11 (by decide) ?_
    refine lv_goto (tgt := 16) hx hb dX4_isNegative_12 (by decide) ?_
    have e9 : (F_X4_isNegative a ) = (1 : Int32) := by rw [F_X4_isNegative, if_neg c1]
    rw [e9] at hV
    subst hV
    exact roRetZ C0 rfl rfl dX4_isNegative_16
theorem c_X4_isNegative (l : Launch) (dC : Nat → ClassId) (dI : Nat → Nat → Nat) (cI cJ : ClassId) (a : Int64) : RoI l yX4_isNegative wsX4_isNegative rm_X4_isNegative (dC, dI) [(cI, .int), (cJ, .long)] [] [.long a] (F_X4_isNegative a ) := by
  refine RoI.mk (cc := cX4_isNegative) (nL := 2) (ret := (some .boolean)) [(0, .long a)] (by decide) rfl (Nat.le_of_ble_eq_true rfl) rfl ?_
  intro p e s m below meth c C0 hP hK ls hl
  exact w_X4_isNegative dC dI cI cJ a C0 hK hP rfl ls hl

-- X4_isZero
def F_X4_isZero (a : Int64) : Int32 :=
  (if a = (0 : Int64) then (1 : Int32) else (if a = (1152921504606846975 : Int64) then (1 : Int32) else (0 : Int32)))
abbrev rm_X4_isZero : Room := { frames := 0, cells := 0, slots := 0, locals := 0 }
set_option maxRecDepth 20000 in
theorem mm_X4_isZero_k17 : Cond.constantLong RX4 17 (1152921504606846975) ∈ wsX4_isZero := by decide +kernel
set_option maxHeartbeats 4000000 in
set_option maxRecDepth 100000 in
theorem w_X4_isZero {p : Program} {l : Launch} {e : Env} {s : State} {m : MethodId} {below : List Frame} {meth : Method} {c : Code} {args : Array Value} (dC : Nat → ClassId) (dI : Nat → Nat → Nat) (cI cJ : ClassId) (a : Int64) (C0 : Cx p s m meth c cX4_isZero 2 (some .boolean) wsX4_isZero RX4 args) (hK : va_K (dC, dI) vwCl [(cI, .int), (cJ, .long)] s) (hP : va_P (dC, dI) vwCl [] s.heap) {V : Int32} (hV : (F_X4_isZero a ) = V) (ls : Array Slot) (hl : lv_has ls 2 [(0, .long a)]) : W p l e rm_X4_isZero s m args below meth c s.heap [] 0 0 (MQ below (vp_Si (fun r => r = V)) args s 0 0 (fun _ => False)) (F0 m 0 ls []) := by
  obtain ⟨hx, hb, hr, hlk, hml, hown, hts⟩ := id C0
  refine lv_lload_n hx hb dX4_isZero_0 rfl (lv_at hl 0 rfl) ?_
  refine lv_lconst (v := (0 : Int64)) hx hb dX4_isZero_1 (by decide) ?_
  refine lc_eq (x := a) (y := (0 : Int64)) (tgt := 14) hx hb dX4_isZero_2 dX4_isZero_3 (by decide) (fun c1 => ?_) (fun c1 => ?_)
  · refine lv_iconst (v := (1 : Int32)) hx hb dX4_isZero_14 (by decide) ?_
    refine lv_goto (tgt := 19) hx hb dX4_isZero_15 (by decide) ?_
    have e9 : (F_X4_isZero a ) = (1 : Int32) := by rw [F_X4_isZero, if_pos c1]
    rw [e9] at hV
    subst hV
    exact roRetZ C0 rfl rfl dX4_isZero_19
  · refine lv_lload_n hx hb dX4_isZero_6 rfl (lv_at hl 0 rfl) ?_
    refine lv_ldc2 (v := (1152921504606846975 : Int64)) hx hb hown (hts _ mm_X4_isZero_k17) dX4_isZero_7 ?_
    refine lc_ne (x := a) (y := (1152921504606846975 : Int64)) (tgt := 18) hx hb dX4_isZero_10 dX4_isZero_11 (by decide) (fun c2 => ?_) (fun c2 => ?_)
    · refine lv_iconst (v := (0 : Int32)) hx hb dX4_isZero_18 (by decide) ?_
      have e9 : (F_X4_isZero a ) = (0 : Int32) := by rw [F_X4_isZero, if_neg c1, if_neg c2]
      rw [e9] at hV
      subst hV
      exact roRetZ C0 rfl rfl dX4_isZero_19
    · refine lv_iconst (v := (1 : Int32)) hx hb dX4_isZero_14 (by decide) ?_
      refine lv_goto (tgt := 19) hx hb dX4_isZero_15 (by decide) ?_
      have e9 : (F_X4_isZero a ) = (1 : Int32) := by rw [F_X4_isZero, if_neg c1, if_pos c2]
      rw [e9] at hV
      subst hV
      exact roRetZ C0 rfl rfl dX4_isZero_19
theorem c_X4_isZero (l : Launch) (dC : Nat → ClassId) (dI : Nat → Nat → Nat) (cI cJ : ClassId) (a : Int64) : RoI l yX4_isZero wsX4_isZero rm_X4_isZero (dC, dI) [(cI, .int), (cJ, .long)] [] [.long a] (F_X4_isZero a ) := by
  refine RoI.mk (cc := cX4_isZero) (nL := 2) (ret := (some .boolean)) [(0, .long a)] (by decide) rfl (Nat.le_of_ble_eq_true rfl) rfl ?_
  intro p e s m below meth c C0 hP hK ls hl
  exact w_X4_isZero dC dI cI cJ a C0 hK hP rfl ls hl

-- X4_sum
def F_X4_sum_41 (v4 : Int64) (v6 : Int64) (t0 : Int32) : Int64 :=
  (if v6 = v4 then (if t0 = 0 then (0 : Int64) else v6) else v6)
def F_X4_sum_40 (v4 : Int64) (v6 : Int64) : Int64 :=
  (F_X4_sum_41 v4 v6 (0 : Int32))
def F_X4_sum_22 (v0 : Int64) (v2 : Int64) (v4 : Int64) (v6 : Int64) : Int64 :=
  (if v0 = v4 then (if v2 = v4 then (F_X4_sum_41 v4 v6 (1 : Int32)) else (F_X4_sum_40 v4 v6)) else (F_X4_sum_40 v4 v6))
def F_X4_sum (a : Int64) (b : Int64) (mk : Int64) : Int64 :=
  (if (a + b) ≤ mk then (F_X4_sum_22 a b mk (a + b)) else (F_X4_sum_22 a b mk (((a + b) &&& mk) + (1 : Int64))))
abbrev rm_X4_sum : Room := { frames := 0, cells := 0, slots := 0, locals := 0 }
set_option maxHeartbeats 4000000 in
set_option maxRecDepth 100000 in
theorem j_X4_sum_41 {p : Program} {l : Launch} {e : Env} {s : State} {m : MethodId} {below : List Frame} {meth : Method} {c : Code} {args : Array Value} (dC : Nat → ClassId) (dI : Nat → Nat → Nat) (cI cJ : ClassId) (a : Int64) (b : Int64) (mk : Int64) (C0 : Cx p s m meth c cX4_sum 9 (some .long) wsX4_sum RX4 args) (hK : va_K (dC, dI) vwCl [(cI, .int), (cJ, .long)] s) (hP : va_P (dC, dI) vwCl [] s.heap) (v4 : Int64) (v6 : Int64) (t0 : Int32) {V : Int64} (hV : (F_X4_sum_41 v4 v6 t0) = V) (ls : Array Slot) (hl : lv_has ls 9 [(4, .long v4), (6, .long v6)]) : W p l e rm_X4_sum s m args below meth c s.heap [] 0 0 (MQ below (vp_Sl (fun r => r = V)) args s 0 0 (fun _ => False)) (F0 m 41 ls [.int t0]) := by
  obtain ⟨hx, hb, hr, hlk, hml, hown, hts⟩ := id C0
  refine lv_istore (lv' := [(8, .int t0), (4, .long v4), (6, .long v6)]) hx hb dX4_sum_41 hl (by decide) rfl (fun ls hl => ?_)
  refine lv_lload hx hb dX4_sum_43 (lv_at hl 2 rfl) ?_
  refine lv_lload hx hb dX4_sum_45 (lv_at hl 1 rfl) ?_
  refine lc_ne (x := v6) (y := v4) (tgt := 60) hx hb dX4_sum_47 dX4_sum_48 (by decide) (fun c1 => ?_) (fun c1 => ?_)
  · refine lv_lload hx hb dX4_sum_60 (lv_at hl 2 rfl) ?_
    have e9 : (F_X4_sum_41 v4 v6 t0) = v6 := by rw [F_X4_sum_41, if_neg c1]
    rw [e9] at hV
    subst hV
    exact roRetL C0 rfl dX4_sum_62
  · refine lv_iload hx hb dX4_sum_51 (lv_at hl 0 rfl) ?_
    refine lv_if_ne (x := t0) (tgt := 60) hx hb dX4_sum_53 (by decide) (fun c2 => ?_) (fun c2 => ?_)
    · refine lv_lload hx hb dX4_sum_60 (lv_at hl 2 rfl) ?_
      have e9 : (F_X4_sum_41 v4 v6 t0) = v6 := by rw [F_X4_sum_41, if_pos c1, if_neg c2]
      rw [e9] at hV
      subst hV
      exact roRetL C0 rfl dX4_sum_62
    · refine lv_lconst (v := (0 : Int64)) hx hb dX4_sum_56 (by decide) ?_
      refine lv_goto (tgt := 62) hx hb dX4_sum_57 (by decide) ?_
      have e9 : (F_X4_sum_41 v4 v6 t0) = (0 : Int64) := by rw [F_X4_sum_41, if_pos c1, if_pos c2]
      rw [e9] at hV
      subst hV
      exact roRetL C0 rfl dX4_sum_62
set_option maxHeartbeats 4000000 in
set_option maxRecDepth 100000 in
theorem j_X4_sum_40 {p : Program} {l : Launch} {e : Env} {s : State} {m : MethodId} {below : List Frame} {meth : Method} {c : Code} {args : Array Value} (dC : Nat → ClassId) (dI : Nat → Nat → Nat) (cI cJ : ClassId) (a : Int64) (b : Int64) (mk : Int64) (C0 : Cx p s m meth c cX4_sum 9 (some .long) wsX4_sum RX4 args) (hK : va_K (dC, dI) vwCl [(cI, .int), (cJ, .long)] s) (hP : va_P (dC, dI) vwCl [] s.heap) (v4 : Int64) (v6 : Int64) {V : Int64} (hV : (F_X4_sum_40 v4 v6) = V) (ls : Array Slot) (hl : lv_has ls 9 [(4, .long v4), (6, .long v6)]) : W p l e rm_X4_sum s m args below meth c s.heap [] 0 0 (MQ below (vp_Sl (fun r => r = V)) args s 0 0 (fun _ => False)) (F0 m 40 ls []) := by
  obtain ⟨hx, hb, hr, hlk, hml, hown, hts⟩ := id C0
  refine lv_iconst (v := (0 : Int32)) hx hb dX4_sum_40 (by decide) ?_
  have e9 : (F_X4_sum_40 v4 v6) = (F_X4_sum_41 v4 v6 (0 : Int32)) := by rw [F_X4_sum_40]
  rw [e9] at hV
  exact j_X4_sum_41 dC dI cI cJ a b mk C0 hK hP v4 v6 (0 : Int32) hV ls (lv_sub hl [0, 1] rfl)
set_option maxHeartbeats 4000000 in
set_option maxRecDepth 100000 in
theorem j_X4_sum_22 {p : Program} {l : Launch} {e : Env} {s : State} {m : MethodId} {below : List Frame} {meth : Method} {c : Code} {args : Array Value} (dC : Nat → ClassId) (dI : Nat → Nat → Nat) (cI cJ : ClassId) (a : Int64) (b : Int64) (mk : Int64) (C0 : Cx p s m meth c cX4_sum 9 (some .long) wsX4_sum RX4 args) (hK : va_K (dC, dI) vwCl [(cI, .int), (cJ, .long)] s) (hP : va_P (dC, dI) vwCl [] s.heap) (v0 : Int64) (v2 : Int64) (v4 : Int64) (v6 : Int64) {V : Int64} (hV : (F_X4_sum_22 v0 v2 v4 v6) = V) (ls : Array Slot) (hl : lv_has ls 9 [(0, .long v0), (2, .long v2), (4, .long v4), (6, .long v6)]) : W p l e rm_X4_sum s m args below meth c s.heap [] 0 0 (MQ below (vp_Sl (fun r => r = V)) args s 0 0 (fun _ => False)) (F0 m 22 ls []) := by
  obtain ⟨hx, hb, hr, hlk, hml, hown, hts⟩ := id C0
  refine lv_lload_n hx hb dX4_sum_22 rfl (lv_at hl 0 rfl) ?_
  refine lv_lload hx hb dX4_sum_23 (lv_at hl 2 rfl) ?_
  refine lc_ne (x := v0) (y := v4) (tgt := 40) hx hb dX4_sum_25 dX4_sum_26 (by decide) (fun c1 => ?_) (fun c1 => ?_)
  · have e9 : (F_X4_sum_22 v0 v2 v4 v6) = (F_X4_sum_40 v4 v6) := by rw [F_X4_sum_22, if_neg c1]
    rw [e9] at hV
    exact j_X4_sum_40 dC dI cI cJ a b mk C0 hK hP v4 v6 hV ls (lv_sub hl [2, 3] rfl)
  · refine lv_lload_n hx hb dX4_sum_29 rfl (lv_at hl 1 rfl) ?_
    refine lv_lload hx hb dX4_sum_30 (lv_at hl 2 rfl) ?_
    refine lc_ne (x := v2) (y := v4) (tgt := 40) hx hb dX4_sum_32 dX4_sum_33 (by decide) (fun c2 => ?_) (fun c2 => ?_)
    · have e9 : (F_X4_sum_22 v0 v2 v4 v6) = (F_X4_sum_40 v4 v6) := by rw [F_X4_sum_22, if_pos c1, if_neg c2]
      rw [e9] at hV
      exact j_X4_sum_40 dC dI cI cJ a b mk C0 hK hP v4 v6 hV ls (lv_sub hl [2, 3] rfl)
    · refine lv_iconst (v := (1 : Int32)) hx hb dX4_sum_36 (by decide) ?_
      refine lv_goto (tgt := 41) hx hb dX4_sum_37 (by decide) ?_
      have e9 : (F_X4_sum_22 v0 v2 v4 v6) = (F_X4_sum_41 v4 v6 (1 : Int32)) := by rw [F_X4_sum_22, if_pos c1, if_pos c2]
      rw [e9] at hV
      exact j_X4_sum_41 dC dI cI cJ a b mk C0 hK hP v4 v6 (1 : Int32) hV ls (lv_sub hl [2, 3] rfl)
set_option maxHeartbeats 4000000 in
set_option maxRecDepth 100000 in
theorem w_X4_sum {p : Program} {l : Launch} {e : Env} {s : State} {m : MethodId} {below : List Frame} {meth : Method} {c : Code} {args : Array Value} (dC : Nat → ClassId) (dI : Nat → Nat → Nat) (cI cJ : ClassId) (a : Int64) (b : Int64) (mk : Int64) (C0 : Cx p s m meth c cX4_sum 9 (some .long) wsX4_sum RX4 args) (hK : va_K (dC, dI) vwCl [(cI, .int), (cJ, .long)] s) (hP : va_P (dC, dI) vwCl [] s.heap) {V : Int64} (hV : (F_X4_sum a b mk ) = V) (ls : Array Slot) (hl : lv_has ls 9 [(0, .long a), (2, .long b), (4, .long mk)]) : W p l e rm_X4_sum s m args below meth c s.heap [] 0 0 (MQ below (vp_Sl (fun r => r = V)) args s 0 0 (fun _ => False)) (F0 m 0 ls []) := by
  obtain ⟨hx, hb, hr, hlk, hml, hown, hts⟩ := id C0
  refine lv_lload_n hx hb dX4_sum_0 rfl (lv_at hl 0 rfl) ?_
  refine lv_lload_n hx hb dX4_sum_1 rfl (lv_at hl 1 rfl) ?_
  refine lv_ladd hx hb dX4_sum_2 ?_
  refine lv_lstore (lv' := [(6, .long (a + b)), (0, .long a), (2, .long b), (4, .long mk)]) hx hb dX4_sum_3 hl (by decide) rfl (fun ls hl => ?_)
  refine lv_lload hx hb dX4_sum_5 (lv_at hl 0 rfl) ?_
  refine lv_lload hx hb dX4_sum_7 (lv_at hl 3 rfl) ?_
  refine lc_le (x := (a + b)) (y := mk) (tgt := 22) hx hb dX4_sum_9 dX4_sum_10 (by decide) (fun c1 => ?_) (fun c1 => ?_)
  · have e9 : (F_X4_sum a b mk ) = (F_X4_sum_22 a b mk (a + b)) := by rw [F_X4_sum, if_pos c1]
    rw [e9] at hV
    exact j_X4_sum_22 dC dI cI cJ a b mk C0 hK hP a b mk (a + b) hV ls (lv_sub hl [1, 2, 3, 0] rfl)
  · refine lv_lload hx hb dX4_sum_13 (lv_at hl 0 rfl) ?_
    refine lv_lload hx hb dX4_sum_15 (lv_at hl 3 rfl) ?_
    refine lv_land hx hb dX4_sum_17 ?_
    refine lv_lconst (v := (1 : Int64)) hx hb dX4_sum_18 (by decide) ?_
    refine lv_ladd hx hb dX4_sum_19 ?_
    refine lv_lstore (lv' := [(6, .long (((a + b) &&& mk) + (1 : Int64))), (0, .long a), (2, .long b), (4, .long mk)]) hx hb dX4_sum_20 hl (by decide) rfl (fun ls hl => ?_)
    have e9 : (F_X4_sum a b mk ) = (F_X4_sum_22 a b mk (((a + b) &&& mk) + (1 : Int64))) := by rw [F_X4_sum, if_neg c1]
    rw [e9] at hV
    exact j_X4_sum_22 dC dI cI cJ a b mk C0 hK hP a b mk (((a + b) &&& mk) + (1 : Int64)) hV ls (lv_sub hl [1, 2, 3, 0] rfl)
theorem c_X4_sum (l : Launch) (dC : Nat → ClassId) (dI : Nat → Nat → Nat) (cI cJ : ClassId) (a : Int64) (b : Int64) (mk : Int64) : RoL l yX4_sum wsX4_sum rm_X4_sum (dC, dI) [(cI, .int), (cJ, .long)] [] [.long a, .long b, .long mk] (F_X4_sum a b mk ) := by
  refine RoL.mk (cc := cX4_sum) (nL := 9) (ret := (some .long)) [(0, .long a), (2, .long b), (4, .long mk)] (by decide) rfl (Nat.le_of_ble_eq_true rfl) rfl ?_
  intro p e s m below meth c C0 hP hK ls hl
  exact w_X4_sum dC dI cI cJ a b mk C0 hK hP rfl ls hl

-- X4_difference
def F_X4_difference (a : Int64) (b : Int64) (mk : Int64) : Int64 :=
  (F_X4_sum a (b ^^^ mk) mk)
abbrev rm_X4_difference : Room := { frames := 1, cells := 0, slots := 0, locals := 28 }
set_option maxRecDepth 20000 in
theorem mm_X4_difference_iX4 : Cond.initialized RX4 ∈ wsX4_difference := by decide +kernel
set_option maxRecDepth 20000 in
theorem mm_X4_difference_l9 : Cond.methodLink RX4 9 yX4_sum ∈ wsX4_difference := by decide +kernel
set_option maxRecDepth 20000 in
theorem mm_X4_difference_tX4_sum : Cond.static yX4_sum ∈ wsX4_difference := by decide +kernel
set_option maxHeartbeats 4000000 in
set_option maxRecDepth 100000 in
theorem w_X4_difference {p : Program} {l : Launch} {e : Env} {s : State} {m : MethodId} {below : List Frame} {meth : Method} {c : Code} {args : Array Value} (dC : Nat → ClassId) (dI : Nat → Nat → Nat) (cI cJ : ClassId) (a : Int64) (b : Int64) (mk : Int64) (C0 : Cx p s m meth c cX4_difference 6 (some .long) wsX4_difference RX4 args) (hK : va_K (dC, dI) vwCl [(cI, .int), (cJ, .long)] s) (hP : va_P (dC, dI) vwCl [] s.heap) {V : Int64} (hV : (F_X4_difference a b mk ) = V) (ls : Array Slot) (hl : lv_has ls 6 [(0, .long a), (2, .long b), (4, .long mk)]) : W p l e rm_X4_difference s m args below meth c s.heap [] 0 0 (MQ below (vp_Sl (fun r => r = V)) args s 0 0 (fun _ => False)) (F0 m 0 ls []) := by
  obtain ⟨hx, hb, hr, hlk, hml, hown, hts⟩ := id C0
  refine lv_lload_n hx hb dX4_difference_0 rfl (lv_at hl 0 rfl) ?_
  refine lv_lload_n hx hb dX4_difference_1 rfl (lv_at hl 1 rfl) ?_
  refine lv_lload hx hb dX4_difference_2 (lv_at hl 2 rfl) ?_
  refine lv_lxor hx hb dX4_difference_4 ?_
  refine lv_lload hx hb dX4_difference_5 (lv_at hl 2 rfl) ?_
  refine roSl (As := [.long a, .long (b ^^^ mk), .long mk]) (rest := []) (bytes := cX4_sum) (maxL := 9) (rty := (some .long)) (n := 3) C0 (c_X4_sum l dC dI cI cJ a (b ^^^ mk) mk) ⟨rfl, rfl, rfl, by decide +kernel, by decide, by decide⟩ ggX4_difference_X4_sum mm_X4_difference_iX4 mm_X4_difference_l9 mm_X4_difference_tX4_sum (hP.sub (ws' := []) [] rfl) hK hl.1 rfl rfl (Nat.le_of_ble_eq_true rfl) dX4_difference_7 ⟨Nat.zero_le _, Nat.zero_le _⟩ ?_
  have e9 : (F_X4_difference a b mk ) = (F_X4_sum a (b ^^^ mk) mk) := by rw [F_X4_difference]
  rw [e9] at hV
  subst hV
  exact roRetL C0 rfl dX4_difference_10
theorem c_X4_difference (l : Launch) (dC : Nat → ClassId) (dI : Nat → Nat → Nat) (cI cJ : ClassId) (a : Int64) (b : Int64) (mk : Int64) : RoL l yX4_difference wsX4_difference rm_X4_difference (dC, dI) [(cI, .int), (cJ, .long)] [] [.long a, .long b, .long mk] (F_X4_difference a b mk ) := by
  refine RoL.mk (cc := cX4_difference) (nL := 6) (ret := (some .long)) [(0, .long a), (2, .long b), (4, .long mk)] (by decide) rfl (Nat.le_of_ble_eq_true rfl) rfl ?_
  intro p e s m below meth c C0 hP hK ls hl
  exact w_X4_difference dC dI cI cJ a b mk C0 hK hP rfl ls hl

-- X4_extended
def F_X4_extended (a : Int64) : Int64 :=
  (if (F_X4_isShortNegative a) = 0 then a else (a ||| (1152921504606584832 : Int64)))
abbrev rm_X4_extended : Room := { frames := 1, cells := 0, slots := 0, locals := 21 }
set_option maxRecDepth 20000 in
theorem mm_X4_extended_iX4 : Cond.initialized RX4 ∈ wsX4_extended := by decide +kernel
set_option maxRecDepth 20000 in
theorem mm_X4_extended_k23 : Cond.constantLong RX4 23 (1152921504606584832) ∈ wsX4_extended := by decide +kernel
set_option maxRecDepth 20000 in
theorem mm_X4_extended_l19 : Cond.methodLink RX4 19 yX4_isShortNegative ∈ wsX4_extended := by decide +kernel
set_option maxRecDepth 20000 in
theorem mm_X4_extended_tX4_isShortNegative : Cond.static yX4_isShortNegative ∈ wsX4_extended := by decide +kernel
set_option maxHeartbeats 4000000 in
set_option maxRecDepth 100000 in
theorem w_X4_extended {p : Program} {l : Launch} {e : Env} {s : State} {m : MethodId} {below : List Frame} {meth : Method} {c : Code} {args : Array Value} (dC : Nat → ClassId) (dI : Nat → Nat → Nat) (cI cJ : ClassId) (a : Int64) (C0 : Cx p s m meth c cX4_extended 2 (some .long) wsX4_extended RX4 args) (hK : va_K (dC, dI) vwCl [(cI, .int), (cJ, .long)] s) (hP : va_P (dC, dI) vwCl [] s.heap) {V : Int64} (hV : (F_X4_extended a ) = V) (ls : Array Slot) (hl : lv_has ls 2 [(0, .long a)]) : W p l e rm_X4_extended s m args below meth c s.heap [] 0 0 (MQ below (vp_Sl (fun r => r = V)) args s 0 0 (fun _ => False)) (F0 m 0 ls []) := by
  obtain ⟨hx, hb, hr, hlk, hml, hown, hts⟩ := id C0
  refine lv_lload_n hx hb dX4_extended_0 rfl (lv_at hl 0 rfl) ?_
  refine roSi (As := [.long a]) (rest := []) (bytes := cX4_isShortNegative) (maxL := 2) (rty := (some .boolean)) (n := 1) C0 (c_X4_isShortNegative l dC dI cI cJ a) ⟨rfl, rfl, rfl, by decide +kernel, by decide, by decide⟩ ggX4_extended_X4_isShortNegative mm_X4_extended_iX4 mm_X4_extended_l19 mm_X4_extended_tX4_isShortNegative (hP.sub (ws' := []) [] rfl) hK hl.1 rfl rfl (Nat.le_of_ble_eq_true rfl) dX4_extended_1 ⟨Nat.zero_le _, Nat.zero_le _⟩ ?_
  refine lv_if_eq (x := (F_X4_isShortNegative a)) (tgt := 15) hx hb dX4_extended_4 (by decide) (fun c1 => ?_) (fun c1 => ?_)
  · refine lv_lload_n hx hb dX4_extended_15 rfl (lv_at hl 0 rfl) ?_
    have e9 : (F_X4_extended a ) = a := by rw [F_X4_extended, if_pos c1]
    rw [e9] at hV
    subst hV
    exact roRetL C0 rfl dX4_extended_16
  · refine lv_lload_n hx hb dX4_extended_7 rfl (lv_at hl 0 rfl) ?_
    refine lv_ldc2 (v := (1152921504606584832 : Int64)) hx hb hown (hts _ mm_X4_extended_k23) dX4_extended_8 ?_
    refine lv_lor hx hb dX4_extended_11 ?_
    refine lv_goto (tgt := 16) hx hb dX4_extended_12 (by decide) ?_
    have e9 : (F_X4_extended a ) = (a ||| (1152921504606584832 : Int64)) := by rw [F_X4_extended, if_neg c1]
    rw [e9] at hV
    subst hV
    exact roRetL C0 rfl dX4_extended_16
theorem c_X4_extended (l : Launch) (dC : Nat → ClassId) (dI : Nat → Nat → Nat) (cI cJ : ClassId) (a : Int64) : RoL l yX4_extended wsX4_extended rm_X4_extended (dC, dI) [(cI, .int), (cJ, .long)] [] [.long a] (F_X4_extended a ) := by
  refine RoL.mk (cc := cX4_extended) (nL := 2) (ret := (some .long)) [(0, .long a)] (by decide) rfl (Nat.le_of_ble_eq_true rfl) rfl ?_
  intro p e s m below meth c C0 hP hK ls hl
  exact w_X4_extended dC dI cI cJ a C0 hK hP rfl ls hl

-- X4_plain
def F_X4_plain (a : Int64) : Int64 :=
  (if (F_X4_isShortNegative a) = 0 then a else (-(a ^^^ (262143 : Int64))))
abbrev rm_X4_plain : Room := { frames := 1, cells := 0, slots := 0, locals := 21 }
set_option maxRecDepth 20000 in
theorem mm_X4_plain_iX4 : Cond.initialized RX4 ∈ wsX4_plain := by decide +kernel
set_option maxRecDepth 20000 in
theorem mm_X4_plain_k25 : Cond.constantLong RX4 25 (262143) ∈ wsX4_plain := by decide +kernel
set_option maxRecDepth 20000 in
theorem mm_X4_plain_l19 : Cond.methodLink RX4 19 yX4_isShortNegative ∈ wsX4_plain := by decide +kernel
set_option maxRecDepth 20000 in
theorem mm_X4_plain_tX4_isShortNegative : Cond.static yX4_isShortNegative ∈ wsX4_plain := by decide +kernel
set_option maxHeartbeats 4000000 in
set_option maxRecDepth 100000 in
theorem w_X4_plain {p : Program} {l : Launch} {e : Env} {s : State} {m : MethodId} {below : List Frame} {meth : Method} {c : Code} {args : Array Value} (dC : Nat → ClassId) (dI : Nat → Nat → Nat) (cI cJ : ClassId) (a : Int64) (C0 : Cx p s m meth c cX4_plain 2 (some .long) wsX4_plain RX4 args) (hK : va_K (dC, dI) vwCl [(cI, .int), (cJ, .long)] s) (hP : va_P (dC, dI) vwCl [] s.heap) {V : Int64} (hV : (F_X4_plain a ) = V) (ls : Array Slot) (hl : lv_has ls 2 [(0, .long a)]) : W p l e rm_X4_plain s m args below meth c s.heap [] 0 0 (MQ below (vp_Sl (fun r => r = V)) args s 0 0 (fun _ => False)) (F0 m 0 ls []) := by
  obtain ⟨hx, hb, hr, hlk, hml, hown, hts⟩ := id C0
  refine lv_lload_n hx hb dX4_plain_0 rfl (lv_at hl 0 rfl) ?_
  refine roSi (As := [.long a]) (rest := []) (bytes := cX4_isShortNegative) (maxL := 2) (rty := (some .boolean)) (n := 1) C0 (c_X4_isShortNegative l dC dI cI cJ a) ⟨rfl, rfl, rfl, by decide +kernel, by decide, by decide⟩ ggX4_plain_X4_isShortNegative mm_X4_plain_iX4 mm_X4_plain_l19 mm_X4_plain_tX4_isShortNegative (hP.sub (ws' := []) [] rfl) hK hl.1 rfl rfl (Nat.le_of_ble_eq_true rfl) dX4_plain_1 ⟨Nat.zero_le _, Nat.zero_le _⟩ ?_
  refine lv_if_eq (x := (F_X4_isShortNegative a)) (tgt := 16) hx hb dX4_plain_4 (by decide) (fun c1 => ?_) (fun c1 => ?_)
  · refine lv_lload_n hx hb dX4_plain_16 rfl (lv_at hl 0 rfl) ?_
    have e9 : (F_X4_plain a ) = a := by rw [F_X4_plain, if_pos c1]
    rw [e9] at hV
    subst hV
    exact roRetL C0 rfl dX4_plain_17
  · refine lv_lload_n hx hb dX4_plain_7 rfl (lv_at hl 0 rfl) ?_
    refine lv_ldc2 (v := (262143 : Int64)) hx hb hown (hts _ mm_X4_plain_k25) dX4_plain_8 ?_
    refine lv_lxor hx hb dX4_plain_11 ?_
    refine lv_lneg hx hb dX4_plain_12 ?_
    refine lv_goto (tgt := 17) hx hb dX4_plain_13 (by decide) ?_
    have e9 : (F_X4_plain a ) = (-(a ^^^ (262143 : Int64))) := by rw [F_X4_plain, if_neg c1]
    rw [e9] at hV
    subst hV
    exact roRetL C0 rfl dX4_plain_17
theorem c_X4_plain (l : Launch) (dC : Nat → ClassId) (dI : Nat → Nat → Nat) (cI cJ : ClassId) (a : Int64) : RoL l yX4_plain wsX4_plain rm_X4_plain (dC, dI) [(cI, .int), (cJ, .long)] [] [.long a] (F_X4_plain a ) := by
  refine RoL.mk (cc := cX4_plain) (nL := 2) (ret := (some .long)) [(0, .long a)] (by decide) rfl (Nat.le_of_ble_eq_true rfl) rfl ?_
  intro p e s m below meth c C0 hP hK ls hl
  exact w_X4_plain dC dI cI cJ a C0 hK hP rfl ls hl

-- X4_turnedRoundLeft
def F_X4_turnedRoundLeft (a : Int64) (n : Int32) : Int64 :=
  (((a <<< ((n - n / (60 : Int32) * (60 : Int32)).toInt64 &&& 63)) ||| ((a.toUInt64 >>> (((60 : Int32) - (n - n / (60 : Int32) * (60 : Int32))).toInt64.toUInt64 &&& Int64.toUInt64 63)).toInt64)) &&& (1152921504606846975 : Int64))
abbrev rm_X4_turnedRoundLeft : Room := { frames := 0, cells := 0, slots := 0, locals := 0 }
set_option maxRecDepth 20000 in
theorem mm_X4_turnedRoundLeft_k17 : Cond.constantLong RX4 17 (1152921504606846975) ∈ wsX4_turnedRoundLeft := by decide +kernel
set_option maxHeartbeats 4000000 in
set_option maxRecDepth 100000 in
theorem w_X4_turnedRoundLeft {p : Program} {l : Launch} {e : Env} {s : State} {m : MethodId} {below : List Frame} {meth : Method} {c : Code} {args : Array Value} (dC : Nat → ClassId) (dI : Nat → Nat → Nat) (cI cJ : ClassId) (a : Int64) (n : Int32) (C0 : Cx p s m meth c cX4_turnedRoundLeft 4 (some .long) wsX4_turnedRoundLeft RX4 args) (hK : va_K (dC, dI) vwCl [(cI, .int), (cJ, .long)] s) (hP : va_P (dC, dI) vwCl [] s.heap) {V : Int64} (hV : (F_X4_turnedRoundLeft a n ) = V) (ls : Array Slot) (hl : lv_has ls 4 [(0, .long a), (2, .int n)]) : W p l e rm_X4_turnedRoundLeft s m args below meth c s.heap [] 0 0 (MQ below (vp_Sl (fun r => r = V)) args s 0 0 (fun _ => False)) (F0 m 0 ls []) := by
  obtain ⟨hx, hb, hr, hlk, hml, hown, hts⟩ := id C0
  refine lv_iload_n hx hb dX4_turnedRoundLeft_0 rfl (lv_at hl 1 rfl) ?_
  refine lv_bipush (v := (60 : Int32)) hx hb dX4_turnedRoundLeft_1 (by decide) ?_
  refine lv_irem hx hb dX4_turnedRoundLeft_3 (by decide) ?_
  refine lv_istore_n (lv' := [(3, .int (n - n / (60 : Int32) * (60 : Int32))), (0, .long a), (2, .int n)]) hx hb dX4_turnedRoundLeft_4 rfl hl (by decide) rfl (fun ls hl => ?_)
  refine lv_lload_n hx hb dX4_turnedRoundLeft_5 rfl (lv_at hl 1 rfl) ?_
  refine lv_iload_n hx hb dX4_turnedRoundLeft_6 rfl (lv_at hl 0 rfl) ?_
  refine lv_lshl hx hb dX4_turnedRoundLeft_7 rfl ?_
  refine lv_lload_n hx hb dX4_turnedRoundLeft_8 rfl (lv_at hl 1 rfl) ?_
  refine lv_bipush (v := (60 : Int32)) hx hb dX4_turnedRoundLeft_9 (by decide) ?_
  refine lv_iload_n hx hb dX4_turnedRoundLeft_11 rfl (lv_at hl 0 rfl) ?_
  refine lv_isub hx hb dX4_turnedRoundLeft_12 ?_
  refine lv_lushr hx hb dX4_turnedRoundLeft_13 rfl ?_
  refine lv_lor hx hb dX4_turnedRoundLeft_14 ?_
  refine lv_ldc2 (v := (1152921504606846975 : Int64)) hx hb hown (hts _ mm_X4_turnedRoundLeft_k17) dX4_turnedRoundLeft_15 ?_
  refine lv_land hx hb dX4_turnedRoundLeft_18 ?_
  have e9 : (F_X4_turnedRoundLeft a n ) = (((a <<< ((n - n / (60 : Int32) * (60 : Int32)).toInt64 &&& 63)) ||| ((a.toUInt64 >>> (((60 : Int32) - (n - n / (60 : Int32) * (60 : Int32))).toInt64.toUInt64 &&& Int64.toUInt64 63)).toInt64)) &&& (1152921504606846975 : Int64)) := by rw [F_X4_turnedRoundLeft]
  rw [e9] at hV
  subst hV
  exact roRetL C0 rfl dX4_turnedRoundLeft_19
theorem c_X4_turnedRoundLeft (l : Launch) (dC : Nat → ClassId) (dI : Nat → Nat → Nat) (cI cJ : ClassId) (a : Int64) (n : Int32) : RoL l yX4_turnedRoundLeft wsX4_turnedRoundLeft rm_X4_turnedRoundLeft (dC, dI) [(cI, .int), (cJ, .long)] [] [.long a, .int n] (F_X4_turnedRoundLeft a n ) := by
  refine RoL.mk (cc := cX4_turnedRoundLeft) (nL := 4) (ret := (some .long)) [(0, .long a), (2, .int n)] (by decide) rfl (Nat.le_of_ble_eq_true rfl) rfl ?_
  intro p e s m below meth c C0 hP hK ls hl
  exact w_X4_turnedRoundLeft dC dI cI cJ a n C0 hK hP rfl ls hl

-- X4_shiftedRight
def F_X4_shiftedRight_16 (v2 : Int32) (t0 : Int64) : Int64 :=
  ((t0 >>> ((if v2 < (60 : Int32) then v2 else (60 : Int32)).toInt64 &&& 63)) &&& (1152921504606846975 : Int64))
def F_X4_shiftedRight (a : Int64) (n : Int32) : Int64 :=
  (if (F_X4_isNegative a) = 0 then (F_X4_shiftedRight_16 n a) else (F_X4_shiftedRight_16 n (a ||| (-1152921504606846976 : Int64))))
abbrev rm_X4_shiftedRight : Room := { frames := 1, cells := 0, slots := 0, locals := 21 }
set_option maxRecDepth 20000 in
theorem mm_X4_shiftedRight_c_min : Cond.code Lib.Math.min.name Lib.Math.min.code 2 (some .int) ∈ wsX4_shiftedRight := by decide +kernel
set_option maxRecDepth 20000 in
theorem mm_X4_shiftedRight_iX4 : Cond.initialized RX4 ∈ wsX4_shiftedRight := by decide +kernel
set_option maxRecDepth 20000 in
theorem mm_X4_shiftedRight_im : Cond.initialized "java/lang/Math" ∈ wsX4_shiftedRight := by decide +kernel
set_option maxRecDepth 20000 in
theorem mm_X4_shiftedRight_k17 : Cond.constantLong RX4 17 (1152921504606846975) ∈ wsX4_shiftedRight := by decide +kernel
set_option maxRecDepth 20000 in
theorem mm_X4_shiftedRight_k30 : Cond.constantLong RX4 30 (-1152921504606846976) ∈ wsX4_shiftedRight := by decide +kernel
set_option maxRecDepth 20000 in
theorem mm_X4_shiftedRight_l27 : Cond.methodLink RX4 27 yX4_isNegative ∈ wsX4_shiftedRight := by decide +kernel
set_option maxRecDepth 20000 in
theorem mm_X4_shiftedRight_l32 : Cond.methodLink RX4 32 Lib.Math.min.name ∈ wsX4_shiftedRight := by decide +kernel
set_option maxRecDepth 20000 in
theorem mm_X4_shiftedRight_st_min : Cond.static Lib.Math.min.name ∈ wsX4_shiftedRight := by decide +kernel
set_option maxRecDepth 20000 in
theorem mm_X4_shiftedRight_tX4_isNegative : Cond.static yX4_isNegative ∈ wsX4_shiftedRight := by decide +kernel
set_option maxHeartbeats 4000000 in
set_option maxRecDepth 100000 in
theorem j_X4_shiftedRight_16 {p : Program} {l : Launch} {e : Env} {s : State} {m : MethodId} {below : List Frame} {meth : Method} {c : Code} {args : Array Value} (dC : Nat → ClassId) (dI : Nat → Nat → Nat) (cI cJ : ClassId) (a : Int64) (n : Int32) (C0 : Cx p s m meth c cX4_shiftedRight 5 (some .long) wsX4_shiftedRight RX4 args) (hK : va_K (dC, dI) vwCl [(cI, .int), (cJ, .long)] s) (hP : va_P (dC, dI) vwCl [] s.heap) (v2 : Int32) (t0 : Int64) {V : Int64} (hV : (F_X4_shiftedRight_16 v2 t0) = V) (ls : Array Slot) (hl : lv_has ls 5 [(2, .int v2)]) : W p l e rm_X4_shiftedRight s m args below meth c s.heap [] 0 0 (MQ below (vp_Sl (fun r => r = V)) args s 0 0 (fun _ => False)) (F0 m 16 ls [.long t0]) := by
  obtain ⟨hx, hb, hr, hlk, hml, hown, hts⟩ := id C0
  refine lv_lstore_n (lv' := [(3, .long t0), (2, .int v2)]) hx hb dX4_shiftedRight_16 rfl hl (by decide) rfl (fun ls hl => ?_)
  refine lv_lload_n hx hb dX4_shiftedRight_17 rfl (lv_at hl 0 rfl) ?_
  refine lv_iload_n hx hb dX4_shiftedRight_18 rfl (lv_at hl 1 rfl) ?_
  refine lv_bipush (v := (60 : Int32)) hx hb dX4_shiftedRight_19 (by decide) ?_
  refine va_mmin hx hb (by rw [hml]; exact hl.1.symm) hown (hts _ mm_X4_shiftedRight_l32) (hts _ mm_X4_shiftedRight_st_min) (hts _ mm_X4_shiftedRight_im) (hts _ mm_X4_shiftedRight_c_min) (by decide) (by decide) (by decide) (by decide) dX4_shiftedRight_21 ?_
  refine lv_lshr hx hb dX4_shiftedRight_24 rfl ?_
  refine lv_ldc2 (v := (1152921504606846975 : Int64)) hx hb hown (hts _ mm_X4_shiftedRight_k17) dX4_shiftedRight_25 ?_
  refine lv_land hx hb dX4_shiftedRight_28 ?_
  have e9 : (F_X4_shiftedRight_16 v2 t0) = ((t0 >>> ((if v2 < (60 : Int32) then v2 else (60 : Int32)).toInt64 &&& 63)) &&& (1152921504606846975 : Int64)) := by rw [F_X4_shiftedRight_16]
  rw [e9] at hV
  subst hV
  exact roRetL C0 rfl dX4_shiftedRight_29
set_option maxHeartbeats 4000000 in
set_option maxRecDepth 100000 in
theorem w_X4_shiftedRight {p : Program} {l : Launch} {e : Env} {s : State} {m : MethodId} {below : List Frame} {meth : Method} {c : Code} {args : Array Value} (dC : Nat → ClassId) (dI : Nat → Nat → Nat) (cI cJ : ClassId) (a : Int64) (n : Int32) (C0 : Cx p s m meth c cX4_shiftedRight 5 (some .long) wsX4_shiftedRight RX4 args) (hK : va_K (dC, dI) vwCl [(cI, .int), (cJ, .long)] s) (hP : va_P (dC, dI) vwCl [] s.heap) {V : Int64} (hV : (F_X4_shiftedRight a n ) = V) (ls : Array Slot) (hl : lv_has ls 5 [(0, .long a), (2, .int n)]) : W p l e rm_X4_shiftedRight s m args below meth c s.heap [] 0 0 (MQ below (vp_Sl (fun r => r = V)) args s 0 0 (fun _ => False)) (F0 m 0 ls []) := by
  obtain ⟨hx, hb, hr, hlk, hml, hown, hts⟩ := id C0
  refine lv_lload_n hx hb dX4_shiftedRight_0 rfl (lv_at hl 0 rfl) ?_
  refine roSi (As := [.long a]) (rest := []) (bytes := cX4_isNegative) (maxL := 2) (rty := (some .boolean)) (n := 1) C0 (c_X4_isNegative l dC dI cI cJ a) ⟨rfl, rfl, rfl, by decide +kernel, by decide, by decide⟩ ggX4_shiftedRight_X4_isNegative mm_X4_shiftedRight_iX4 mm_X4_shiftedRight_l27 mm_X4_shiftedRight_tX4_isNegative (hP.sub (ws' := []) [] rfl) hK hl.1 rfl rfl (Nat.le_of_ble_eq_true rfl) dX4_shiftedRight_1 ⟨Nat.zero_le _, Nat.zero_le _⟩ ?_
  refine lv_if_eq (x := (F_X4_isNegative a)) (tgt := 15) hx hb dX4_shiftedRight_4 (by decide) (fun c1 => ?_) (fun c1 => ?_)
  · refine lv_lload_n hx hb dX4_shiftedRight_15 rfl (lv_at hl 0 rfl) ?_
    have e9 : (F_X4_shiftedRight a n ) = (F_X4_shiftedRight_16 n a) := by rw [F_X4_shiftedRight, if_pos c1]
    rw [e9] at hV
    exact j_X4_shiftedRight_16 dC dI cI cJ a n C0 hK hP n a hV ls (lv_sub hl [1] rfl)
  · refine lv_lload_n hx hb dX4_shiftedRight_7 rfl (lv_at hl 0 rfl) ?_
    refine lv_ldc2 (v := (-1152921504606846976 : Int64)) hx hb hown (hts _ mm_X4_shiftedRight_k30) dX4_shiftedRight_8 ?_
    refine lv_lor hx hb dX4_shiftedRight_11 ?_
    refine lv_goto (tgt := 16) hx hb dX4_shiftedRight_12 (by decide) ?_
    have e9 : (F_X4_shiftedRight a n ) = (F_X4_shiftedRight_16 n (a ||| (-1152921504606846976 : Int64))) := by rw [F_X4_shiftedRight, if_neg c1]
    rw [e9] at hV
    exact j_X4_shiftedRight_16 dC dI cI cJ a n C0 hK hP n (a ||| (-1152921504606846976 : Int64)) hV ls (lv_sub hl [1] rfl)
theorem c_X4_shiftedRight (l : Launch) (dC : Nat → ClassId) (dI : Nat → Nat → Nat) (cI cJ : ClassId) (a : Int64) (n : Int32) : RoL l yX4_shiftedRight wsX4_shiftedRight rm_X4_shiftedRight (dC, dI) [(cI, .int), (cJ, .long)] [] [.long a, .int n] (F_X4_shiftedRight a n ) := by
  refine RoL.mk (cc := cX4_shiftedRight) (nL := 5) (ret := (some .long)) [(0, .long a), (2, .int n)] (by decide) rfl (Nat.le_of_ble_eq_true rfl) rfl ?_
  intro p e s m below meth c C0 hP hK ls hl
  exact w_X4_shiftedRight dC dI cI cJ a n C0 hK hP rfl ls hl

-- X4_highestBits
def F_X4_highestBits (n : Int32) : Int64 :=
  ((1152921504606846975 : Int64) ^^^ ((1152921504606846975 : Int64) >>> ((if n < (60 : Int32) then n else (60 : Int32)).toInt64 &&& 63)))
abbrev rm_X4_highestBits : Room := { frames := 1, cells := 0, slots := 0, locals := 21 }
set_option maxRecDepth 20000 in
theorem mm_X4_highestBits_c_min : Cond.code Lib.Math.min.name Lib.Math.min.code 2 (some .int) ∈ wsX4_highestBits := by decide +kernel
set_option maxRecDepth 20000 in
theorem mm_X4_highestBits_im : Cond.initialized "java/lang/Math" ∈ wsX4_highestBits := by decide +kernel
set_option maxRecDepth 20000 in
theorem mm_X4_highestBits_k17 : Cond.constantLong RX4 17 (1152921504606846975) ∈ wsX4_highestBits := by decide +kernel
set_option maxRecDepth 20000 in
theorem mm_X4_highestBits_l32 : Cond.methodLink RX4 32 Lib.Math.min.name ∈ wsX4_highestBits := by decide +kernel
set_option maxRecDepth 20000 in
theorem mm_X4_highestBits_st_min : Cond.static Lib.Math.min.name ∈ wsX4_highestBits := by decide +kernel
set_option maxHeartbeats 4000000 in
set_option maxRecDepth 100000 in
theorem w_X4_highestBits {p : Program} {l : Launch} {e : Env} {s : State} {m : MethodId} {below : List Frame} {meth : Method} {c : Code} {args : Array Value} (dC : Nat → ClassId) (dI : Nat → Nat → Nat) (cI cJ : ClassId) (n : Int32) (C0 : Cx p s m meth c cX4_highestBits 1 (some .long) wsX4_highestBits RX4 args) (hK : va_K (dC, dI) vwCl [(cI, .int), (cJ, .long)] s) (hP : va_P (dC, dI) vwCl [] s.heap) {V : Int64} (hV : (F_X4_highestBits n ) = V) (ls : Array Slot) (hl : lv_has ls 1 [(0, .int n)]) : W p l e rm_X4_highestBits s m args below meth c s.heap [] 0 0 (MQ below (vp_Sl (fun r => r = V)) args s 0 0 (fun _ => False)) (F0 m 0 ls []) := by
  obtain ⟨hx, hb, hr, hlk, hml, hown, hts⟩ := id C0
  refine lv_ldc2 (v := (1152921504606846975 : Int64)) hx hb hown (hts _ mm_X4_highestBits_k17) dX4_highestBits_0 ?_
  refine lv_ldc2 (v := (1152921504606846975 : Int64)) hx hb hown (hts _ mm_X4_highestBits_k17) dX4_highestBits_3 ?_
  refine lv_iload_n hx hb dX4_highestBits_6 rfl (lv_at hl 0 rfl) ?_
  refine lv_bipush (v := (60 : Int32)) hx hb dX4_highestBits_7 (by decide) ?_
  refine va_mmin hx hb (by rw [hml]; exact hl.1.symm) hown (hts _ mm_X4_highestBits_l32) (hts _ mm_X4_highestBits_st_min) (hts _ mm_X4_highestBits_im) (hts _ mm_X4_highestBits_c_min) (by decide) (by decide) (by decide) (by decide) dX4_highestBits_9 ?_
  refine lv_lshr hx hb dX4_highestBits_12 rfl ?_
  refine lv_lxor hx hb dX4_highestBits_13 ?_
  have e9 : (F_X4_highestBits n ) = ((1152921504606846975 : Int64) ^^^ ((1152921504606846975 : Int64) >>> ((if n < (60 : Int32) then n else (60 : Int32)).toInt64 &&& 63))) := by rw [F_X4_highestBits]
  rw [e9] at hV
  subst hV
  exact roRetL C0 rfl dX4_highestBits_14
theorem c_X4_highestBits (l : Launch) (dC : Nat → ClassId) (dI : Nat → Nat → Nat) (cI cJ : ClassId) (n : Int32) : RoL l yX4_highestBits wsX4_highestBits rm_X4_highestBits (dC, dI) [(cI, .int), (cJ, .long)] [] [.int n] (F_X4_highestBits n ) := by
  refine RoL.mk (cc := cX4_highestBits) (nL := 1) (ret := (some .long)) [(0, .int n)] (by decide) rfl (Nat.le_of_ble_eq_true rfl) rfl ?_
  intro p e s m below meth c C0 hP hK ls hl
  exact w_X4_highestBits dC dI cI cJ n C0 hK hP rfl ls hl
end
