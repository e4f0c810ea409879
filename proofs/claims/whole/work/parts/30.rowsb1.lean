theorem dX9_init_0 : decode cX9_init 0 = .ok (.aload_n 0, 1) := by decide +kernel
theorem dX9_init_1 : decode cX9_init 1 = .ok (.invokespecial 1, 3) := by decide +kernel
theorem dX9_init_4 : decode cX9_init 4 = .ok (.aload_n 0, 1) := by decide +kernel
theorem dX9_init_5 : decode cX9_init 5 = .ok (.sipush 512, 3) := by decide +kernel
theorem dX9_init_8 : decode cX9_init 8 = .ok (.newarray .long, 2) := by decide +kernel
theorem dX9_init_10 : decode cX9_init 10 = .ok (.putfield 7, 3) := by decide +kernel
theorem dX9_init_13 : decode cX9_init 13 = .ok (.aload_n 0, 1) := by decide +kernel
theorem dX9_init_14 : decode cX9_init 14 = .ok (.sipush 512, 3) := by decide +kernel
theorem dX9_init_17 : decode cX9_init 17 = .ok (.newarray .long, 2) := by decide +kernel
theorem dX9_init_19 : decode cX9_init 19 = .ok (.putfield 13, 3) := by decide +kernel
theorem dX9_init_22 : decode cX9_init 22 = .ok (.aload_n 0, 1) := by decide +kernel
theorem dX9_init_23 : decode cX9_init 23 = .ok (.bipush 24, 2) := by decide +kernel
theorem dX9_init_25 : decode cX9_init 25 = .ok (.newarray .long, 2) := by decide +kernel
theorem dX9_init_27 : decode cX9_init 27 = .ok (.putfield 16, 3) := by decide +kernel
theorem dX9_init_30 : decode cX9_init 30 = .ok (.aload_n 0, 1) := by decide +kernel
theorem dX9_init_31 : decode cX9_init 31 = .ok (.iconst 3, 1) := by decide +kernel
theorem dX9_init_32 : decode cX9_init 32 = .ok (.putfield 19, 3) := by decide +kernel
theorem dX9_init_35 : decode cX9_init 35 = .ok (.aload_n 0, 1) := by decide +kernel
theorem dX9_init_36 : decode cX9_init 36 = .ok (.bipush 8, 2) := by decide +kernel
theorem dX9_init_38 : decode cX9_init 38 = .ok (.newarray .int, 2) := by decide +kernel
theorem dX9_init_40 : decode cX9_init 40 = .ok (.putfield 23, 3) := by decide +kernel
theorem dX9_init_43 : decode cX9_init 43 = .ok (.aload_n 0, 1) := by decide +kernel
theorem dX9_init_44 : decode cX9_init 44 = .ok (.iconst 5, 1) := by decide +kernel
theorem dX9_init_45 : decode cX9_init 45 = .ok (.newarray .long, 2) := by decide +kernel
theorem dX9_init_47 : decode cX9_init 47 = .ok (.putfield 27, 3) := by decide +kernel
theorem dX9_init_50 : decode cX9_init 50 = .ok (.aload_n 0, 1) := by decide +kernel
theorem dX9_init_51 : decode cX9_init 51 = .ok (.bipush 24, 2) := by decide +kernel
theorem dX9_init_53 : decode cX9_init 53 = .ok (.newarray .long, 2) := by decide +kernel
theorem dX9_init_55 : decode cX9_init 55 = .ok (.putfield 30, 3) := by decide +kernel
theorem dX9_init_58 : decode cX9_init 58 = .ok (.aload_n 0, 1) := by decide +kernel
theorem dX9_init_59 : decode cX9_init 59 = .ok (.bipush 24, 2) := by decide +kernel
theorem dX9_init_61 : decode cX9_init 61 = .ok (.newarray .long, 2) := by decide +kernel
theorem dX9_init_63 : decode cX9_init 63 = .ok (.putfield 33, 3) := by decide +kernel
theorem dX9_init_66 : decode cX9_init 66 = .ok (.aload_n 0, 1) := by decide +kernel
theorem dX9_init_67 : decode cX9_init 67 = .ok (.bipush 6, 2) := by decide +kernel
theorem dX9_init_69 : decode cX9_init 69 = .ok (.newarray .long, 2) := by decide +kernel
theorem dX9_init_71 : decode cX9_init 71 = .ok (.putfield 36, 3) := by decide +kernel
theorem dX9_init_74 : decode cX9_init 74 = .ok (.return_, 1) := by decide +kernel
theorem dX9_thrown_0 : decode cX9_thrown 0 = .ok (.aload_n 0, 1) := by decide +kernel
theorem dX9_thrown_1 : decode cX9_thrown 1 = .ok (.getfield 39, 3) := by decide +kernel
theorem dX9_thrown_4 : decode cX9_thrown 4 = .ok (.ireturn, 1) := by decide +kernel
theorem dX9_write_0 : decode cX9_write 0 = .ok (.aload_n 0, 1) := by decide +kernel
theorem dX9_write_1 : decode cX9_write 1 = .ok (.iload_n 1, 1) := by decide +kernel
theorem dX9_write_2 : decode cX9_write 2 = .ok (.ifCond .lt 10, 3) := by decide +kernel
theorem dX9_write_5 : decode cX9_write 5 = .ok (.iload_n 1, 1) := by decide +kernel
theorem dX9_write_6 : decode cX9_write 6 = .ok (.sipush 512, 3) := by decide +kernel
theorem dX9_write_9 : decode cX9_write 9 = .ok (.if_icmp .lt 7, 3) := by decide +kernel
theorem dX9_write_12 : decode cX9_write 12 = .ok (.iconst 1, 1) := by decide +kernel
theorem dX9_write_13 : decode cX9_write 13 = .ok (.goto 4, 3) := by decide +kernel
theorem dX9_write_16 : decode cX9_write 16 = .ok (.iconst 0, 1) := by decide +kernel
theorem dX9_write_17 : decode cX9_write 17 = .ok (.putfield 39, 3) := by decide +kernel
theorem dX9_write_20 : decode cX9_write 20 = .ok (.aload_n 0, 1) := by decide +kernel
theorem dX9_write_21 : decode cX9_write 21 = .ok (.getfield 39, 3) := by decide +kernel
theorem dX9_write_24 : decode cX9_write 24 = .ok (.ifCond .le 5, 3) := by decide +kernel
theorem dX9_write_27 : decode cX9_write 27 = .ok (.lconst 0, 1) := by decide +kernel
theorem dX9_write_28 : decode cX9_write 28 = .ok (.lreturn, 1) := by decide +kernel
theorem dX9_write_29 : decode cX9_write 29 = .ok (.aload_n 0, 1) := by decide +kernel
theorem dX9_write_30 : decode cX9_write 30 = .ok (.getfield 7, 3) := by decide +kernel
theorem dX9_write_33 : decode cX9_write 33 = .ok (.iload_n 1, 1) := by decide +kernel
theorem dX9_write_34 : decode cX9_write 34 = .ok (.laload, 1) := by decide +kernel
theorem dX9_write_35 : decode cX9_write 35 = .ok (.lstore 4, 2) := by decide +kernel
theorem dX9_write_37 : decode cX9_write 37 = .ok (.aload_n 0, 1) := by decide +kernel
theorem dX9_write_38 : decode cX9_write 38 = .ok (.getfield 7, 3) := by decide +kernel
theorem dX9_write_41 : decode cX9_write 41 = .ok (.iload_n 1, 1) := by decide +kernel
theorem dX9_write_42 : decode cX9_write 42 = .ok (.lload_n 2, 1) := by decide +kernel
theorem dX9_write_43 : decode cX9_write 43 = .ok (.ldc2_w 42, 3) := by decide +kernel
theorem dX9_write_46 : decode cX9_write 46 = .ok (.land, 1) := by decide +kernel
theorem dX9_write_47 : decode cX9_write 47 = .ok (.lastore, 1) := by decide +kernel
theorem dX9_write_48 : decode cX9_write 48 = .ok (.lload 4, 2) := by decide +kernel
theorem dX9_write_50 : decode cX9_write 50 = .ok (.lreturn, 1) := by decide +kernel
theorem dX9_read_0 : decode cX9_read 0 = .ok (.aload_n 0, 1) := by decide +kernel
theorem dX9_read_1 : decode cX9_read 1 = .ok (.iload_n 1, 1) := by decide +kernel
theorem dX9_read_2 : decode cX9_read 2 = .ok (.ifCond .lt 10, 3) := by decide +kernel
theorem dX9_read_5 : decode cX9_read 5 = .ok (.iload_n 1, 1) := by decide +kernel
theorem dX9_read_6 : decode cX9_read 6 = .ok (.sipush 512, 3) := by decide +kernel
theorem dX9_read_9 : decode cX9_read 9 = .ok (.if_icmp .lt 7, 3) := by decide +kernel
theorem dX9_read_12 : decode cX9_read 12 = .ok (.iconst 1, 1) := by decide +kernel
theorem dX9_read_13 : decode cX9_read 13 = .ok (.goto 4, 3) := by decide +kernel
theorem dX9_read_16 : decode cX9_read 16 = .ok (.iconst 0, 1) := by decide +kernel
theorem dX9_read_17 : decode cX9_read 17 = .ok (.putfield 39, 3) := by decide +kernel
theorem dX9_read_20 : decode cX9_read 20 = .ok (.aload_n 0, 1) := by decide +kernel
theorem dX9_read_21 : decode cX9_read 21 = .ok (.getfield 39, 3) := by decide +kernel
theorem dX9_read_24 : decode cX9_read 24 = .ok (.ifCond .le 7, 3) := by decide +kernel
theorem dX9_read_27 : decode cX9_read 27 = .ok (.lconst 0, 1) := by decide +kernel
theorem dX9_read_28 : decode cX9_read 28 = .ok (.goto 9, 3) := by decide +kernel
theorem dX9_read_31 : decode cX9_read 31 = .ok (.aload_n 0, 1) := by decide +kernel
theorem dX9_read_32 : decode cX9_read 32 = .ok (.getfield 7, 3) := by decide +kernel
theorem dX9_read_35 : decode cX9_read 35 = .ok (.iload_n 1, 1) := by decide +kernel
theorem dX9_read_36 : decode cX9_read 36 = .ok (.laload, 1) := by decide +kernel
theorem dX9_read_37 : decode cX9_read 37 = .ok (.lreturn, 1) := by decide +kernel
theorem dX9_register_0 : decode cX9_register 0 = .ok (.aload_n 0, 1) := by decide +kernel
theorem dX9_register_1 : decode cX9_register 1 = .ok (.iload_n 1, 1) := by decide +kernel
theorem dX9_register_2 : decode cX9_register 2 = .ok (.ifCond .lt 9, 3) := by decide +kernel
theorem dX9_register_5 : decode cX9_register 5 = .ok (.iload_n 1, 1) := by decide +kernel
theorem dX9_register_6 : decode cX9_register 6 = .ok (.bipush 23, 2) := by decide +kernel
theorem dX9_register_8 : decode cX9_register 8 = .ok (.if_icmp .le 7, 3) := by decide +kernel
theorem dX9_register_11 : decode cX9_register 11 = .ok (.iconst 1, 1) := by decide +kernel
theorem dX9_register_12 : decode cX9_register 12 = .ok (.goto 4, 3) := by decide +kernel
theorem dX9_register_15 : decode cX9_register 15 = .ok (.iconst 0, 1) := by decide +kernel
theorem dX9_register_16 : decode cX9_register 16 = .ok (.putfield 39, 3) := by decide +kernel
theorem dX9_register_19 : decode cX9_register 19 = .ok (.aload_n 0, 1) := by decide +kernel
theorem dX9_register_20 : decode cX9_register 20 = .ok (.getfield 39, 3) := by decide +kernel
theorem dX9_register_23 : decode cX9_register 23 = .ok (.ifCond .le 7, 3) := by decide +kernel
theorem dX9_register_26 : decode cX9_register 26 = .ok (.lconst 0, 1) := by decide +kernel
theorem dX9_register_27 : decode cX9_register 27 = .ok (.goto 9, 3) := by decide +kernel
theorem dX9_register_30 : decode cX9_register 30 = .ok (.aload_n 0, 1) := by decide +kernel
theorem dX9_register_31 : decode cX9_register 31 = .ok (.getfield 16, 3) := by decide +kernel
theorem dX9_register_34 : decode cX9_register 34 = .ok (.iload_n 1, 1) := by decide +kernel
theorem dX9_register_35 : decode cX9_register 35 = .ok (.laload, 1) := by decide +kernel
theorem dX9_register_36 : decode cX9_register 36 = .ok (.lreturn, 1) := by decide +kernel
theorem dX9_set_0 : decode cX9_set 0 = .ok (.iload_n 1, 1) := by decide +kernel
theorem dX9_set_1 : decode cX9_set 1 = .ok (.bipush 16, 2) := by decide +kernel
theorem dX9_set_3 : decode cX9_set 3 = .ok (.if_icmp .eq 28, 3) := by decide +kernel
theorem dX9_set_6 : decode cX9_set 6 = .ok (.aload_n 0, 1) := by decide +kernel
theorem dX9_set_7 : decode cX9_set 7 = .ok (.getfield 16, 3) := by decide +kernel
theorem dX9_set_10 : decode cX9_set 10 = .ok (.iload_n 1, 1) := by decide +kernel
theorem dX9_set_11 : decode cX9_set 11 = .ok (.iload_n 1, 1) := by decide +kernel
theorem dX9_set_12 : decode cX9_set 12 = .ok (.bipush 8, 2) := by decide +kernel
theorem dX9_set_14 : decode cX9_set 14 = .ok (.if_icmp .ge 11, 3) := by decide +kernel
theorem dX9_set_17 : decode cX9_set 17 = .ok (.lload_n 2, 1) := by decide +kernel
theorem dX9_set_18 : decode cX9_set 18 = .ok (.ldc2_w 42, 3) := by decide +kernel
theorem dX9_set_21 : decode cX9_set 21 = .ok (.land, 1) := by decide +kernel
theorem dX9_set_22 : decode cX9_set 22 = .ok (.goto 8, 3) := by decide +kernel
theorem dX9_set_25 : decode cX9_set 25 = .ok (.lload_n 2, 1) := by decide +kernel
theorem dX9_set_26 : decode cX9_set 26 = .ok (.ldc2_w 44, 3) := by decide +kernel
theorem dX9_set_29 : decode cX9_set 29 = .ok (.land, 1) := by decide +kernel
theorem dX9_set_30 : decode cX9_set 30 = .ok (.lastore, 1) := by decide +kernel
theorem dX9_set_31 : decode cX9_set 31 = .ok (.return_, 1) := by decide +kernel
set_option maxRecDepth 20000 in
theorem ggX9_put_X9_set_1 : ∀ w ∈ ([.fieldLink RX9 16 "ScoreboardCoreModel" "\x72" "[J", .constantLong RX9 42 (1152921504606846975), .constantLong RX9 44 (262143)] : List Cond), w ∈ wsX9_put := List.forall_mem_cons.mpr ⟨List.mem_of_getElem? (i := 7) rfl, List.forall_mem_cons.mpr ⟨List.mem_of_getElem? (i := 8) rfl, List.forall_mem_cons.mpr ⟨List.mem_of_getElem? (i := 9) rfl, fun _ h => nomatch h⟩⟩⟩
set_option maxRecDepth 20000 in
theorem ggX9_put_X9_set_2 : ∀ w ∈ wsX90, w ∈ wsX9_put := fun w h => List.mem_cons_of_mem _ (List.mem_append_right _ (h))
theorem ggX9_put_X9_set_m : ∀ w ∈ wsX9_set, w ∈ wsX9_put := fun w h => (List.mem_cons.mp h).elim (fun e => by rw [e]; exact List.mem_of_getElem? (i := 6) rfl) (fun h => (List.mem_append.mp h).elim (fun h => ggX9_put_X9_set_1 w h) (fun h => ggX9_put_X9_set_2 w h))
set_option maxRecDepth 20000 in
theorem ggX9_put_X9_set : GoodIn wsX9_put wsX9_set := goodIn_sub ggX9_put_X9_set_m (by decide +kernel)
theorem dX9_put_0 : decode cX9_put 0 = .ok (.aload_n 0, 1) := by decide +kernel
theorem dX9_put_1 : decode cX9_put 1 = .ok (.iload_n 1, 1) := by decide +kernel
theorem dX9_put_2 : decode cX9_put 2 = .ok (.ifCond .lt 9, 3) := by decide +kernel
theorem dX9_put_5 : decode cX9_put 5 = .ok (.iload_n 1, 1) := by decide +kernel
theorem dX9_put_6 : decode cX9_put 6 = .ok (.bipush 23, 2) := by decide +kernel
theorem dX9_put_8 : decode cX9_put 8 = .ok (.if_icmp .le 7, 3) := by decide +kernel
theorem dX9_put_11 : decode cX9_put 11 = .ok (.iconst 1, 1) := by decide +kernel
theorem dX9_put_12 : decode cX9_put 12 = .ok (.goto 4, 3) := by decide +kernel
theorem dX9_put_15 : decode cX9_put 15 = .ok (.iconst 0, 1) := by decide +kernel
theorem dX9_put_16 : decode cX9_put 16 = .ok (.putfield 39, 3) := by decide +kernel
theorem dX9_put_19 : decode cX9_put 19 = .ok (.aload_n 0, 1) := by decide +kernel
theorem dX9_put_20 : decode cX9_put 20 = .ok (.getfield 39, 3) := by decide +kernel
theorem dX9_put_23 : decode cX9_put 23 = .ok (.ifCond .ne 9, 3) := by decide +kernel
theorem dX9_put_26 : decode cX9_put 26 = .ok (.aload_n 0, 1) := by decide +kernel
theorem dX9_put_27 : decode cX9_put 27 = .ok (.iload_n 1, 1) := by decide +kernel
theorem dX9_put_28 : decode cX9_put 28 = .ok (.lload_n 2, 1) := by decide +kernel
theorem dX9_put_29 : decode cX9_put 29 = .ok (.invokevirtual 46, 3) := by decide +kernel
theorem dX9_put_32 : decode cX9_put 32 = .ok (.return_, 1) := by decide +kernel
theorem dX9_start_0 : decode cX9_start 0 = .ok (.aload_n 0, 1) := by decide +kernel
theorem dX9_start_1 : decode cX9_start 1 = .ok (.iload_n 1, 1) := by decide +kernel
theorem dX9_start_2 : decode cX9_start 2 = .ok (.ifCond .lt 10, 3) := by decide +kernel
theorem dX9_start_5 : decode cX9_start 5 = .ok (.iload_n 1, 1) := by decide +kernel
theorem dX9_start_6 : decode cX9_start 6 = .ok (.sipush 512, 3) := by decide +kernel
theorem dX9_start_9 : decode cX9_start 9 = .ok (.if_icmp .lt 7, 3) := by decide +kernel
theorem dX9_start_12 : decode cX9_start 12 = .ok (.iconst 1, 1) := by decide +kernel
theorem dX9_start_13 : decode cX9_start 13 = .ok (.goto 4, 3) := by decide +kernel
theorem dX9_start_16 : decode cX9_start 16 = .ok (.iconst 0, 1) := by decide +kernel
theorem dX9_start_17 : decode cX9_start 17 = .ok (.putfield 39, 3) := by decide +kernel
theorem dX9_start_20 : decode cX9_start 20 = .ok (.aload_n 0, 1) := by decide +kernel
theorem dX9_start_21 : decode cX9_start 21 = .ok (.getfield 39, 3) := by decide +kernel
theorem dX9_start_24 : decode cX9_start 24 = .ok (.ifCond .ne 18, 3) := by decide +kernel
theorem dX9_start_27 : decode cX9_start 27 = .ok (.aload_n 0, 1) := by decide +kernel
theorem dX9_start_28 : decode cX9_start 28 = .ok (.iload_n 1, 1) := by decide +kernel
theorem dX9_start_29 : decode cX9_start 29 = .ok (.putfield 50, 3) := by decide +kernel
theorem dX9_start_32 : decode cX9_start 32 = .ok (.aload_n 0, 1) := by decide +kernel
theorem dX9_start_33 : decode cX9_start 33 = .ok (.iconst 0, 1) := by decide +kernel
theorem dX9_start_34 : decode cX9_start 34 = .ok (.putfield 53, 3) := by decide +kernel
theorem dX9_start_37 : decode cX9_start 37 = .ok (.aload_n 0, 1) := by decide +kernel
theorem dX9_start_38 : decode cX9_start 38 = .ok (.iconst 3, 1) := by decide +kernel
theorem dX9_start_39 : decode cX9_start 39 = .ok (.putfield 19, 3) := by decide +kernel
theorem dX9_start_42 : decode cX9_start 42 = .ok (.return_, 1) := by decide +kernel
theorem dX9_sum_0 : decode cX9_sum 0 = .ok (.lload_n 0, 1) := by decide +kernel
theorem dX9_sum_1 : decode cX9_sum 1 = .ok (.lload_n 2, 1) := by decide +kernel
theorem dX9_sum_2 : decode cX9_sum 2 = .ok (.ladd, 1) := by decide +kernel
theorem dX9_sum_3 : decode cX9_sum 3 = .ok (.lstore 6, 2) := by decide +kernel
theorem dX9_sum_5 : decode cX9_sum 5 = .ok (.lload 6, 2) := by decide +kernel
theorem dX9_sum_7 : decode cX9_sum 7 = .ok (.lload 4, 2) := by decide +kernel
theorem dX9_sum_9 : decode cX9_sum 9 = .ok (.lcmp, 1) := by decide +kernel
theorem dX9_sum_10 : decode cX9_sum 10 = .ok (.ifCond .le 11, 3) := by decide +kernel
theorem dX9_sum_13 : decode cX9_sum 13 = .ok (.lload 6, 2) := by decide +kernel
theorem dX9_sum_15 : decode cX9_sum 15 = .ok (.lload 4, 2) := by decide +kernel
theorem dX9_sum_17 : decode cX9_sum 17 = .ok (.lsub, 1) := by decide +kernel
theorem dX9_sum_18 : decode cX9_sum 18 = .ok (.goto 5, 3) := by decide +kernel
theorem dX9_sum_21 : decode cX9_sum 21 = .ok (.lload 6, 2) := by decide +kernel
theorem dX9_sum_23 : decode cX9_sum 23 = .ok (.lstore 6, 2) := by decide +kernel
theorem dX9_sum_25 : decode cX9_sum 25 = .ok (.lload 6, 2) := by decide +kernel
theorem dX9_sum_27 : decode cX9_sum 27 = .ok (.lload 4, 2) := by decide +kernel
theorem dX9_sum_29 : decode cX9_sum 29 = .ok (.lcmp, 1) := by decide +kernel
theorem dX9_sum_30 : decode cX9_sum 30 = .ok (.ifCond .ne 21, 3) := by decide +kernel
theorem dX9_sum_33 : decode cX9_sum 33 = .ok (.lload_n 0, 1) := by decide +kernel
theorem dX9_sum_34 : decode cX9_sum 34 = .ok (.lload 4, 2) := by decide +kernel
theorem dX9_sum_36 : decode cX9_sum 36 = .ok (.lcmp, 1) := by decide +kernel
theorem dX9_sum_37 : decode cX9_sum 37 = .ok (.ifCond .ne 10, 3) := by decide +kernel
theorem dX9_sum_40 : decode cX9_sum 40 = .ok (.lload_n 2, 1) := by decide +kernel
theorem dX9_sum_41 : decode cX9_sum 41 = .ok (.lload 4, 2) := by decide +kernel
theorem dX9_sum_43 : decode cX9_sum 43 = .ok (.lcmp, 1) := by decide +kernel
theorem dX9_sum_44 : decode cX9_sum 44 = .ok (.ifCond .eq 7, 3) := by decide +kernel
theorem dX9_sum_47 : decode cX9_sum 47 = .ok (.lconst 0, 1) := by decide +kernel
theorem dX9_sum_48 : decode cX9_sum 48 = .ok (.goto 5, 3) := by decide +kernel
theorem dX9_sum_51 : decode cX9_sum 51 = .ok (.lload 6, 2) := by decide +kernel
theorem dX9_sum_53 : decode cX9_sum 53 = .ok (.lreturn, 1) := by decide +kernel
set_option maxRecDepth 20000 in
theorem ggX9_less_X9_sum_1 : ∀ w ∈ ([] : List Cond), w ∈ wsX9_less := fun _ h => nomatch h
theorem ggX9_less_X9_sum_m : ∀ w ∈ wsX9_sum, w ∈ wsX9_less := fun w h => (List.mem_cons.mp h).elim (fun e => by rw [e]; exact List.mem_of_getElem? (i := 4) rfl) (fun h => ggX9_less_X9_sum_1 w h)
set_option maxRecDepth 20000 in
theorem ggX9_less_X9_sum : GoodIn wsX9_less wsX9_sum := goodIn_sub ggX9_less_X9_sum_m (by decide +kernel)
theorem dX9_less_0 : decode cX9_less 0 = .ok (.lload_n 0, 1) := by decide +kernel
theorem dX9_less_1 : decode cX9_less 1 = .ok (.lload 4, 2) := by decide +kernel
theorem dX9_less_3 : decode cX9_less 3 = .ok (.lload_n 2, 1) := by decide +kernel
theorem dX9_less_4 : decode cX9_less 4 = .ok (.lsub, 1) := by decide +kernel
theorem dX9_less_5 : decode cX9_less 5 = .ok (.lload 4, 2) := by decide +kernel
theorem dX9_less_7 : decode cX9_less 7 = .ok (.invokestatic 56, 3) := by decide +kernel
theorem dX9_less_10 : decode cX9_less 10 = .ok (.lreturn, 1) := by decide +kernel
theorem dX9_signed_0 : decode cX9_signed 0 = .ok (.lload_n 0, 1) := by decide +kernel
theorem dX9_signed_1 : decode cX9_signed 1 = .ok (.lload_n 2, 1) := by decide +kernel
theorem dX9_signed_2 : decode cX9_signed 2 = .ok (.ldc2_w 60, 3) := by decide +kernel
theorem dX9_signed_5 : decode cX9_signed 5 = .ok (.ldiv, 1) := by decide +kernel
theorem dX9_signed_6 : decode cX9_signed 6 = .ok (.lcmp, 1) := by decide +kernel
theorem dX9_signed_7 : decode cX9_signed 7 = .ok (.ifCond .le 9, 3) := by decide +kernel
theorem dX9_signed_10 : decode cX9_signed 10 = .ok (.lload_n 0, 1) := by decide +kernel
theorem dX9_signed_11 : decode cX9_signed 11 = .ok (.lload_n 2, 1) := by decide +kernel
theorem dX9_signed_12 : decode cX9_signed 12 = .ok (.lsub, 1) := by decide +kernel
theorem dX9_signed_13 : decode cX9_signed 13 = .ok (.goto 4, 3) := by decide +kernel
theorem dX9_signed_16 : decode cX9_signed 16 = .ok (.lload_n 0, 1) := by decide +kernel
theorem dX9_signed_17 : decode cX9_signed 17 = .ok (.lreturn, 1) := by decide +kernel
theorem dX9_extended_0 : decode cX9_extended 0 = .ok (.lload_n 0, 1) := by decide +kernel
theorem dX9_extended_1 : decode cX9_extended 1 = .ok (.ldc2_w 62, 3) := by decide +kernel
theorem dX9_extended_4 : decode cX9_extended 4 = .ok (.lcmp, 1) := by decide +kernel
theorem dX9_extended_5 : decode cX9_extended 5 = .ok (.ifCond .le 11, 3) := by decide +kernel
theorem dX9_extended_8 : decode cX9_extended 8 = .ok (.lload_n 0, 1) := by decide +kernel
theorem dX9_extended_9 : decode cX9_extended 9 = .ok (.ldc2_w 64, 3) := by decide +kernel
theorem dX9_extended_12 : decode cX9_extended 12 = .ok (.lor, 1) := by decide +kernel
theorem dX9_extended_13 : decode cX9_extended 13 = .ok (.goto 4, 3) := by decide +kernel
theorem dX9_extended_16 : decode cX9_extended 16 = .ok (.lload_n 0, 1) := by decide +kernel
theorem dX9_extended_17 : decode cX9_extended 17 = .ok (.lreturn, 1) := by decide +kernel
theorem dX9_round_0 : decode cX9_round 0 = .ok (.lload_n 0, 1) := by decide +kernel
theorem dX9_round_1 : decode cX9_round 1 = .ok (.lstore_n 3, 1) := by decide +kernel
theorem dX9_round_2 : decode cX9_round 2 = .ok (.iconst 0, 1) := by decide +kernel
theorem dX9_round_3 : decode cX9_round 3 = .ok (.istore 5, 2) := by decide +kernel
theorem dX9_round_5 : decode cX9_round 5 = .ok (.iload 5, 2) := by decide +kernel
theorem dX9_round_7 : decode cX9_round 7 = .ok (.iload_n 2, 1) := by decide +kernel
theorem dX9_round_8 : decode cX9_round 8 = .ok (.bipush 60, 2) := by decide +kernel
theorem dX9_round_10 : decode cX9_round 10 = .ok (.irem, 1) := by decide +kernel
theorem dX9_round_11 : decode cX9_round 11 = .ok (.if_icmp .ge 22, 3) := by decide +kernel
theorem dX9_round_14 : decode cX9_round 14 = .ok (.lload_n 3, 1) := by decide +kernel
theorem dX9_round_15 : decode cX9_round 15 = .ok (.iconst 1, 1) := by decide +kernel
theorem dX9_round_16 : decode cX9_round 16 = .ok (.lshl, 1) := by decide +kernel
theorem dX9_round_17 : decode cX9_round 17 = .ok (.ldc2_w 42, 3) := by decide +kernel
theorem dX9_round_20 : decode cX9_round 20 = .ok (.land, 1) := by decide +kernel
theorem dX9_round_21 : decode cX9_round 21 = .ok (.lload_n 3, 1) := by decide +kernel
theorem dX9_round_22 : decode cX9_round 22 = .ok (.bipush 59, 2) := by decide +kernel
theorem dX9_round_24 : decode cX9_round 24 = .ok (.lshr, 1) := by decide +kernel
theorem dX9_round_25 : decode cX9_round 25 = .ok (.lor, 1) := by decide +kernel
theorem dX9_round_26 : decode cX9_round 26 = .ok (.lstore_n 3, 1) := by decide +kernel
theorem dX9_round_27 : decode cX9_round 27 = .ok (.iinc 5 1, 3) := by decide +kernel
theorem dX9_round_30 : decode cX9_round 30 = .ok (.goto (-25), 3) := by decide +kernel
theorem dX9_round_33 : decode cX9_round 33 = .ok (.lload_n 3, 1) := by decide +kernel
theorem dX9_round_34 : decode cX9_round 34 = .ok (.lreturn, 1) := by decide +kernel
theorem dX9_right_0 : decode cX9_right 0 = .ok (.lload_n 0, 1) := by decide +kernel
theorem dX9_right_1 : decode cX9_right 1 = .ok (.lstore_n 3, 1) := by decide +kernel
theorem dX9_right_2 : decode cX9_right 2 = .ok (.iconst 0, 1) := by decide +kernel
theorem dX9_right_3 : decode cX9_right 3 = .ok (.istore 5, 2) := by decide +kernel
theorem dX9_right_5 : decode cX9_right 5 = .ok (.iload 5, 2) := by decide +kernel
theorem dX9_right_7 : decode cX9_right 7 = .ok (.iload_n 2, 1) := by decide +kernel
theorem dX9_right_8 : decode cX9_right 8 = .ok (.if_icmp .ge 19, 3) := by decide +kernel
theorem dX9_right_11 : decode cX9_right 11 = .ok (.lload_n 3, 1) := by decide +kernel
theorem dX9_right_12 : decode cX9_right 12 = .ok (.iconst 1, 1) := by decide +kernel
theorem dX9_right_13 : decode cX9_right 13 = .ok (.lshr, 1) := by decide +kernel
theorem dX9_right_14 : decode cX9_right 14 = .ok (.lload_n 3, 1) := by decide +kernel
theorem dX9_right_15 : decode cX9_right 15 = .ok (.ldc2_w 66, 3) := by decide +kernel
theorem dX9_right_18 : decode cX9_right 18 = .ok (.land, 1) := by decide +kernel
theorem dX9_right_19 : decode cX9_right 19 = .ok (.lor, 1) := by decide +kernel
theorem dX9_right_20 : decode cX9_right 20 = .ok (.lstore_n 3, 1) := by decide +kernel
theorem dX9_right_21 : decode cX9_right 21 = .ok (.iinc 5 1, 3) := by decide +kernel
theorem dX9_right_24 : decode cX9_right 24 = .ok (.goto (-19), 3) := by decide +kernel
theorem dX9_right_27 : decode cX9_right 27 = .ok (.lload_n 3, 1) := by decide +kernel
theorem dX9_right_28 : decode cX9_right 28 = .ok (.lreturn, 1) := by decide +kernel
theorem dX9_hasNumber_0 : decode cX9_hasNumber 0 = .ok (.iload_n 0, 1) := by decide +kernel
theorem dX9_hasNumber_1 : decode cX9_hasNumber 1 = .ok (.ifCond .le 9, 3) := by decide +kernel
theorem dX9_hasNumber_4 : decode cX9_hasNumber 4 = .ok (.iload_n 0, 1) := by decide +kernel
theorem dX9_hasNumber_5 : decode cX9_hasNumber 5 = .ok (.bipush 8, 2) := by decide +kernel
theorem dX9_hasNumber_7 : decode cX9_hasNumber 7 = .ok (.if_icmp .lt 23, 3) := by decide +kernel
theorem dX9_hasNumber_10 : decode cX9_hasNumber 10 = .ok (.iload_n 0, 1) := by decide +kernel
theorem dX9_hasNumber_11 : decode cX9_hasNumber 11 = .ok (.bipush 40, 2) := by decide +kernel
theorem dX9_hasNumber_13 : decode cX9_hasNumber 13 = .ok (.if_icmp .lt 21, 3) := by decide +kernel
theorem dX9_hasNumber_16 : decode cX9_hasNumber 16 = .ok (.iload_n 0, 1) := by decide +kernel
theorem dX9_hasNumber_17 : decode cX9_hasNumber 17 = .ok (.bipush 64, 2) := by decide +kernel
theorem dX9_hasNumber_19 : decode cX9_hasNumber 19 = .ok (.if_icmp .ge 15, 3) := by decide +kernel
theorem dX9_hasNumber_22 : decode cX9_hasNumber 22 = .ok (.iload_n 0, 1) := by decide +kernel
theorem dX9_hasNumber_23 : decode cX9_hasNumber 23 = .ok (.bipush 8, 2) := by decide +kernel
theorem dX9_hasNumber_25 : decode cX9_hasNumber 25 = .ok (.irem, 1) := by decide +kernel
theorem dX9_hasNumber_26 : decode cX9_hasNumber 26 = .ok (.iconst 3, 1) := by decide +kernel
theorem dX9_hasNumber_27 : decode cX9_hasNumber 27 = .ok (.if_icmp .ge 7, 3) := by decide +kernel
theorem dX9_hasNumber_30 : decode cX9_hasNumber 30 = .ok (.iconst 1, 1) := by decide +kernel
theorem dX9_hasNumber_31 : decode cX9_hasNumber 31 = .ok (.goto 4, 3) := by decide +kernel
theorem dX9_hasNumber_34 : decode cX9_hasNumber 34 = .ok (.iconst 0, 1) := by decide +kernel
theorem dX9_hasNumber_35 : decode cX9_hasNumber 35 = .ok (.ireturn, 1) := by decide +kernel
theorem dX9_isUnknown_0 : decode cX9_isUnknown 0 = .ok (.aload_n 0, 1) := by decide +kernel
theorem dX9_isUnknown_1 : decode cX9_isUnknown 1 = .ok (.getfield 68, 3) := by decide +kernel
theorem dX9_isUnknown_4 : decode cX9_isUnknown 4 = .ok (.bipush 20, 2) := by decide +kernel
theorem dX9_isUnknown_6 : decode cX9_isUnknown 6 = .ok (.if_icmp .lt 57, 3) := by decide +kernel
theorem dX9_isUnknown_9 : decode cX9_isUnknown 9 = .ok (.aload_n 0, 1) := by decide +kernel
theorem dX9_isUnknown_10 : decode cX9_isUnknown 10 = .ok (.getfield 68, 3) := by decide +kernel
theorem dX9_isUnknown_13 : decode cX9_isUnknown 13 = .ok (.bipush 30, 2) := by decide +kernel
theorem dX9_isUnknown_15 : decode cX9_isUnknown 15 = .ok (.if_icmp .eq 48, 3) := by decide +kernel
theorem dX9_isUnknown_18 : decode cX9_isUnknown 18 = .ok (.aload_n 0, 1) := by decide +kernel
theorem dX9_isUnknown_19 : decode cX9_isUnknown 19 = .ok (.getfield 68, 3) := by decide +kernel
theorem dX9_isUnknown_22 : decode cX9_isUnknown 22 = .ok (.bipush 31, 2) := by decide +kernel
theorem dX9_isUnknown_24 : decode cX9_isUnknown 24 = .ok (.if_icmp .eq 39, 3) := by decide +kernel
theorem dX9_isUnknown_27 : decode cX9_isUnknown 27 = .ok (.aload_n 0, 1) := by decide +kernel
theorem dX9_isUnknown_28 : decode cX9_isUnknown 28 = .ok (.getfield 68, 3) := by decide +kernel
theorem dX9_isUnknown_31 : decode cX9_isUnknown 31 = .ok (.bipush 35, 2) := by decide +kernel
theorem dX9_isUnknown_33 : decode cX9_isUnknown 33 = .ok (.if_icmp .eq 30, 3) := by decide +kernel
theorem dX9_isUnknown_36 : decode cX9_isUnknown 36 = .ok (.aload_n 0, 1) := by decide +kernel
theorem dX9_isUnknown_37 : decode cX9_isUnknown 37 = .ok (.getfield 68, 3) := by decide +kernel
theorem dX9_isUnknown_40 : decode cX9_isUnknown 40 = .ok (.bipush 38, 2) := by decide +kernel
theorem dX9_isUnknown_42 : decode cX9_isUnknown 42 = .ok (.if_icmp .eq 21, 3) := by decide +kernel
theorem dX9_isUnknown_45 : decode cX9_isUnknown 45 = .ok (.aload_n 0, 1) := by decide +kernel
theorem dX9_isUnknown_46 : decode cX9_isUnknown 46 = .ok (.getfield 68, 3) := by decide +kernel
theorem dX9_isUnknown_49 : decode cX9_isUnknown 49 = .ok (.bipush 39, 2) := by decide +kernel
theorem dX9_isUnknown_51 : decode cX9_isUnknown 51 = .ok (.if_icmp .eq 12, 3) := by decide +kernel
theorem dX9_isUnknown_54 : decode cX9_isUnknown 54 = .ok (.aload_n 0, 1) := by decide +kernel
theorem dX9_isUnknown_55 : decode cX9_isUnknown 55 = .ok (.getfield 68, 3) := by decide +kernel
theorem dX9_isUnknown_58 : decode cX9_isUnknown 58 = .ok (.bipush 40, 2) := by decide +kernel
theorem dX9_isUnknown_60 : decode cX9_isUnknown 60 = .ok (.if_icmp .lt 7, 3) := by decide +kernel
theorem dX9_isUnknown_63 : decode cX9_isUnknown 63 = .ok (.iconst 1, 1) := by decide +kernel
theorem dX9_isUnknown_64 : decode cX9_isUnknown 64 = .ok (.goto 4, 3) := by decide +kernel
theorem dX9_isUnknown_67 : decode cX9_isUnknown 67 = .ok (.iconst 0, 1) := by decide +kernel
theorem dX9_isUnknown_68 : decode cX9_isUnknown 68 = .ok (.istore_n 1, 1) := by decide +kernel
theorem dX9_isUnknown_69 : decode cX9_isUnknown 69 = .ok (.iload_n 1, 1) := by decide +kernel
theorem dX9_isUnknown_70 : decode cX9_isUnknown 70 = .ok (.ifCond .eq 35, 3) := by decide +kernel
theorem dX9_isUnknown_73 : decode cX9_isUnknown 73 = .ok (.aload_n 0, 1) := by decide +kernel
theorem dX9_isUnknown_74 : decode cX9_isUnknown 74 = .ok (.getfield 68, 3) := by decide +kernel
theorem dX9_isUnknown_77 : decode cX9_isUnknown 77 = .ok (.iconst 3, 1) := by decide +kernel
theorem dX9_isUnknown_78 : decode cX9_isUnknown 78 = .ok (.if_icmp .ne 11, 3) := by decide +kernel
theorem dX9_isUnknown_81 : decode cX9_isUnknown 81 = .ok (.aload_n 0, 1) := by decide +kernel
theorem dX9_isUnknown_82 : decode cX9_isUnknown 82 = .ok (.getfield 71, 3) := by decide +kernel
theorem dX9_isUnknown_85 : decode cX9_isUnknown 85 = .ok (.iconst 3, 1) := by decide +kernel
theorem dX9_isUnknown_86 : decode cX9_isUnknown 86 = .ok (.if_icmp .gt 19, 3) := by decide +kernel
theorem dX9_isUnknown_89 : decode cX9_isUnknown 89 = .ok (.aload_n 0, 1) := by decide +kernel
theorem dX9_isUnknown_90 : decode cX9_isUnknown 90 = .ok (.getfield 74, 3) := by decide +kernel
theorem dX9_isUnknown_93 : decode cX9_isUnknown 93 = .ok (.iconst 2, 1) := by decide +kernel
theorem dX9_isUnknown_94 : decode cX9_isUnknown 94 = .ok (.if_icmp .ne 15, 3) := by decide +kernel
theorem dX9_isUnknown_97 : decode cX9_isUnknown 97 = .ok (.aload_n 0, 1) := by decide +kernel
theorem dX9_isUnknown_98 : decode cX9_isUnknown 98 = .ok (.getfield 53, 3) := by decide +kernel
theorem dX9_isUnknown_101 : decode cX9_isUnknown 101 = .ok (.iconst 3, 1) := by decide +kernel
theorem dX9_isUnknown_102 : decode cX9_isUnknown 102 = .ok (.if_icmp .ne 7, 3) := by decide +kernel
theorem dX9_isUnknown_105 : decode cX9_isUnknown 105 = .ok (.iconst 1, 1) := by decide +kernel
theorem dX9_isUnknown_106 : decode cX9_isUnknown 106 = .ok (.goto 4, 3) := by decide +kernel
theorem dX9_isUnknown_109 : decode cX9_isUnknown 109 = .ok (.iconst 0, 1) := by decide +kernel
theorem dX9_isUnknown_110 : decode cX9_isUnknown 110 = .ok (.ireturn, 1) := by decide +kernel
theorem dX9_parcelAt_0 : decode cX9_parcelAt 0 = .ok (.aload_n 0, 1) := by decide +kernel
theorem dX9_parcelAt_1 : decode cX9_parcelAt 1 = .ok (.getfield 13, 3) := by decide +kernel
theorem dX9_parcelAt_4 : decode cX9_parcelAt 4 = .ok (.aload_n 0, 1) := by decide +kernel
theorem dX9_parcelAt_5 : decode cX9_parcelAt 5 = .ok (.getfield 50, 3) := by decide +kernel
theorem dX9_parcelAt_8 : decode cX9_parcelAt 8 = .ok (.laload, 1) := by decide +kernel
theorem dX9_parcelAt_9 : decode cX9_parcelAt 9 = .ok (.bipush 15, 2) := by decide +kernel
theorem dX9_parcelAt_11 : decode cX9_parcelAt 11 = .ok (.iconst 3, 1) := by decide +kernel
theorem dX9_parcelAt_12 : decode cX9_parcelAt 12 = .ok (.iload_n 1, 1) := by decide +kernel
theorem dX9_parcelAt_13 : decode cX9_parcelAt 13 = .ok (.isub, 1) := by decide +kernel
theorem dX9_parcelAt_14 : decode cX9_parcelAt 14 = .ok (.imul, 1) := by decide +kernel
theorem dX9_parcelAt_15 : decode cX9_parcelAt 15 = .ok (.lshr, 1) := by decide +kernel
theorem dX9_parcelAt_16 : decode cX9_parcelAt 16 = .ok (.ldc2_w 77, 3) := by decide +kernel
theorem dX9_parcelAt_19 : decode cX9_parcelAt 19 = .ok (.land, 1) := by decide +kernel
theorem dX9_parcelAt_20 : decode cX9_parcelAt 20 = .ok (.l2i, 1) := by decide +kernel
theorem dX9_parcelAt_21 : decode cX9_parcelAt 21 = .ok (.ireturn, 1) := by decide +kernel
set_option maxRecDepth 20000 in
theorem ggX9_take_X9_parcelAt_1 : ∀ w ∈ ([.fieldLink RX9 13 "ScoreboardCoreModel" "program" "[J", .fieldLink RX9 50 "ScoreboardCoreModel" "word" "I", .constantLong RX9 77 (32767)] : List Cond), w ∈ wsX9_take := List.forall_mem_cons.mpr ⟨List.mem_of_getElem? (i := 13) rfl, List.forall_mem_cons.mpr ⟨List.mem_of_getElem? (i := 14) rfl, List.forall_mem_cons.mpr ⟨List.mem_of_getElem? (i := 15) rfl, fun _ h => nomatch h⟩⟩⟩
set_option maxRecDepth 20000 in
theorem ggX9_take_X9_parcelAt_2 : ∀ w ∈ wsX90, w ∈ wsX9_take := fun w h => List.mem_cons_of_mem _ (List.mem_append_right _ (h))
theorem ggX9_take_X9_parcelAt_m : ∀ w ∈ wsX9_parcelAt, w ∈ wsX9_take := fun w h => (List.mem_cons.mp h).elim (fun e => by rw [e]; exact List.mem_of_getElem? (i := 12) rfl) (fun h => (List.mem_append.mp h).elim (fun h => ggX9_take_X9_parcelAt_1 w h) (fun h => ggX9_take_X9_parcelAt_2 w h))
set_option maxRecDepth 20000 in
theorem ggX9_take_X9_parcelAt : GoodIn wsX9_take wsX9_parcelAt := goodIn_sub ggX9_take_X9_parcelAt_m (by decide +kernel)
set_option maxRecDepth 20000 in
theorem ggX9_take_X9_hasNumber_1 : ∀ w ∈ ([] : List Cond), w ∈ wsX9_take := fun _ h => nomatch h
theorem ggX9_take_X9_hasNumber_m : ∀ w ∈ wsX9_hasNumber, w ∈ wsX9_take := fun w h => (List.mem_cons.mp h).elim (fun e => by rw [e]; exact List.mem_of_getElem? (i := 18) rfl) (fun h => ggX9_take_X9_hasNumber_1 w h)
set_option maxRecDepth 20000 in
theorem ggX9_take_X9_hasNumber : GoodIn wsX9_take wsX9_hasNumber := goodIn_sub ggX9_take_X9_hasNumber_m (by decide +kernel)
theorem dX9_take_0 : decode cX9_take 0 = .ok (.aload_n 0, 1) := by decide +kernel
theorem dX9_take_1 : decode cX9_take 1 = .ok (.aload_n 0, 1) := by decide +kernel
theorem dX9_take_2 : decode cX9_take 2 = .ok (.getfield 53, 3) := by decide +kernel
theorem dX9_take_5 : decode cX9_take 5 = .ok (.invokevirtual 79, 3) := by decide +kernel
theorem dX9_take_8 : decode cX9_take 8 = .ok (.istore_n 1, 1) := by decide +kernel
theorem dX9_take_9 : decode cX9_take 9 = .ok (.aload_n 0, 1) := by decide +kernel
theorem dX9_take_10 : decode cX9_take 10 = .ok (.iload_n 1, 1) := by decide +kernel
theorem dX9_take_11 : decode cX9_take 11 = .ok (.bipush 9, 2) := by decide +kernel
theorem dX9_take_13 : decode cX9_take 13 = .ok (.ishr, 1) := by decide +kernel
theorem dX9_take_14 : decode cX9_take 14 = .ok (.putfield 68, 3) := by decide +kernel
theorem dX9_take_17 : decode cX9_take 17 = .ok (.aload_n 0, 1) := by decide +kernel
theorem dX9_take_18 : decode cX9_take 18 = .ok (.iload_n 1, 1) := by decide +kernel
theorem dX9_take_19 : decode cX9_take 19 = .ok (.bipush 6, 2) := by decide +kernel
theorem dX9_take_21 : decode cX9_take 21 = .ok (.ishr, 1) := by decide +kernel
theorem dX9_take_22 : decode cX9_take 22 = .ok (.bipush 7, 2) := by decide +kernel
theorem dX9_take_24 : decode cX9_take 24 = .ok (.iand, 1) := by decide +kernel
theorem dX9_take_25 : decode cX9_take 25 = .ok (.putfield 71, 3) := by decide +kernel
theorem dX9_take_28 : decode cX9_take 28 = .ok (.aload_n 0, 1) := by decide +kernel
theorem dX9_take_29 : decode cX9_take 29 = .ok (.iload_n 1, 1) := by decide +kernel
theorem dX9_take_30 : decode cX9_take 30 = .ok (.iconst 3, 1) := by decide +kernel
theorem dX9_take_31 : decode cX9_take 31 = .ok (.ishr, 1) := by decide +kernel
theorem dX9_take_32 : decode cX9_take 32 = .ok (.bipush 7, 2) := by decide +kernel
theorem dX9_take_34 : decode cX9_take 34 = .ok (.iand, 1) := by decide +kernel
theorem dX9_take_35 : decode cX9_take 35 = .ok (.putfield 83, 3) := by decide +kernel
theorem dX9_take_38 : decode cX9_take 38 = .ok (.aload_n 0, 1) := by decide +kernel
theorem dX9_take_39 : decode cX9_take 39 = .ok (.iload_n 1, 1) := by decide +kernel
theorem dX9_take_40 : decode cX9_take 40 = .ok (.bipush 7, 2) := by decide +kernel
theorem dX9_take_42 : decode cX9_take 42 = .ok (.iand, 1) := by decide +kernel
theorem dX9_take_43 : decode cX9_take 43 = .ok (.putfield 86, 3) := by decide +kernel
theorem dX9_take_46 : decode cX9_take 46 = .ok (.aload_n 0, 1) := by decide +kernel
theorem dX9_take_47 : decode cX9_take 47 = .ok (.aload_n 0, 1) := by decide +kernel
theorem dX9_take_48 : decode cX9_take 48 = .ok (.getfield 68, 3) := by decide +kernel
theorem dX9_take_51 : decode cX9_take 51 = .ok (.invokestatic 89, 3) := by decide +kernel
theorem dX9_take_54 : decode cX9_take 54 = .ok (.ifCond .eq 7, 3) := by decide +kernel
theorem dX9_take_57 : decode cX9_take 57 = .ok (.iconst 2, 1) := by decide +kernel
theorem dX9_take_58 : decode cX9_take 58 = .ok (.goto 4, 3) := by decide +kernel
theorem dX9_take_61 : decode cX9_take 61 = .ok (.iconst 1, 1) := by decide +kernel
theorem dX9_take_62 : decode cX9_take 62 = .ok (.putfield 74, 3) := by decide +kernel
theorem dX9_take_65 : decode cX9_take 65 = .ok (.aload_n 0, 1) := by decide +kernel
theorem dX9_take_66 : decode cX9_take 66 = .ok (.aload_n 0, 1) := by decide +kernel
theorem dX9_take_67 : decode cX9_take 67 = .ok (.getfield 74, 3) := by decide +kernel
theorem dX9_take_70 : decode cX9_take 70 = .ok (.iconst 2, 1) := by decide +kernel
theorem dX9_take_71 : decode cX9_take 71 = .ok (.if_icmp .ne 32, 3) := by decide +kernel
theorem dX9_take_74 : decode cX9_take 74 = .ok (.aload_n 0, 1) := by decide +kernel
theorem dX9_take_75 : decode cX9_take 75 = .ok (.getfield 53, 3) := by decide +kernel
theorem dX9_take_78 : decode cX9_take 78 = .ok (.iconst 3, 1) := by decide +kernel
theorem dX9_take_79 : decode cX9_take 79 = .ok (.if_icmp .ge 24, 3) := by decide +kernel
theorem dX9_take_82 : decode cX9_take 82 = .ok (.aload_n 0, 1) := by decide +kernel
theorem dX9_take_83 : decode cX9_take 83 = .ok (.getfield 86, 3) := by decide +kernel
theorem dX9_take_86 : decode cX9_take 86 = .ok (.bipush 15, 2) := by decide +kernel
theorem dX9_take_88 : decode cX9_take 88 = .ok (.ishl, 1) := by decide +kernel
theorem dX9_take_89 : decode cX9_take 89 = .ok (.aload_n 0, 1) := by decide +kernel
theorem dX9_take_90 : decode cX9_take 90 = .ok (.aload_n 0, 1) := by decide +kernel
theorem dX9_take_91 : decode cX9_take 91 = .ok (.getfield 53, 3) := by decide +kernel
theorem dX9_take_94 : decode cX9_take 94 = .ok (.iconst 1, 1) := by decide +kernel
theorem dX9_take_95 : decode cX9_take 95 = .ok (.iadd, 1) := by decide +kernel
theorem dX9_take_96 : decode cX9_take 96 = .ok (.invokevirtual 79, 3) := by decide +kernel
theorem dX9_take_99 : decode cX9_take 99 = .ok (.ior, 1) := by decide +kernel
theorem dX9_take_100 : decode cX9_take 100 = .ok (.goto 4, 3) := by decide +kernel
theorem dX9_take_103 : decode cX9_take 103 = .ok (.iconst 0, 1) := by decide +kernel
theorem dX9_take_104 : decode cX9_take 104 = .ok (.putfield 93, 3) := by decide +kernel
theorem dX9_take_107 : decode cX9_take 107 = .ok (.return_, 1) := by decide +kernel
theorem dX9_need_0 : decode cX9_need 0 = .ok (.aload_n 0, 1) := by decide +kernel
theorem dX9_need_1 : decode cX9_need 1 = .ok (.iload_n 1, 1) := by decide +kernel
theorem dX9_need_2 : decode cX9_need 2 = .ok (.bipush 16, 2) := by decide +kernel
theorem dX9_need_4 : decode cX9_need 4 = .ok (.if_icmp .ne 10, 3) := by decide +kernel
theorem dX9_need_7 : decode cX9_need 7 = .ok (.aload_n 0, 1) := by decide +kernel
theorem dX9_need_8 : decode cX9_need 8 = .ok (.getfield 96, 3) := by decide +kernel
theorem dX9_need_11 : decode cX9_need 11 = .ok (.goto 11, 3) := by decide +kernel
theorem dX9_need_14 : decode cX9_need 14 = .ok (.aload_n 0, 1) := by decide +kernel
theorem dX9_need_15 : decode cX9_need 15 = .ok (.getfield 96, 3) := by decide +kernel
theorem dX9_need_18 : decode cX9_need 18 = .ok (.iconst 1, 1) := by decide +kernel
theorem dX9_need_19 : decode cX9_need 19 = .ok (.iload_n 1, 1) := by decide +kernel
theorem dX9_need_20 : decode cX9_need 20 = .ok (.ishl, 1) := by decide +kernel
theorem dX9_need_21 : decode cX9_need 21 = .ok (.ior, 1) := by decide +kernel
theorem dX9_need_22 : decode cX9_need 22 = .ok (.putfield 96, 3) := by decide +kernel
theorem dX9_need_25 : decode cX9_need 25 = .ok (.return_, 1) := by decide +kernel
theorem dX9_give_0 : decode cX9_give 0 = .ok (.aload_n 0, 1) := by decide +kernel
theorem dX9_give_1 : decode cX9_give 1 = .ok (.iload_n 1, 1) := by decide +kernel
theorem dX9_give_2 : decode cX9_give 2 = .ok (.bipush 16, 2) := by decide +kernel
theorem dX9_give_4 : decode cX9_give 4 = .ok (.if_icmp .ne 10, 3) := by decide +kernel
theorem dX9_give_7 : decode cX9_give 7 = .ok (.aload_n 0, 1) := by decide +kernel
theorem dX9_give_8 : decode cX9_give 8 = .ok (.getfield 99, 3) := by decide +kernel
theorem dX9_give_11 : decode cX9_give 11 = .ok (.goto 11, 3) := by decide +kernel
theorem dX9_give_14 : decode cX9_give 14 = .ok (.aload_n 0, 1) := by decide +kernel
theorem dX9_give_15 : decode cX9_give 15 = .ok (.getfield 99, 3) := by decide +kernel
theorem dX9_give_18 : decode cX9_give 18 = .ok (.iconst 1, 1) := by decide +kernel
theorem dX9_give_19 : decode cX9_give 19 = .ok (.iload_n 1, 1) := by decide +kernel
theorem dX9_give_20 : decode cX9_give 20 = .ok (.ishl, 1) := by decide +kernel
theorem dX9_give_21 : decode cX9_give 21 = .ok (.ior, 1) := by decide +kernel
theorem dX9_give_22 : decode cX9_give 22 = .ok (.putfield 99, 3) := by decide +kernel
theorem dX9_give_25 : decode cX9_give 25 = .ok (.return_, 1) := by decide +kernel
theorem dX9_isMemory_0 : decode cX9_isMemory 0 = .ok (.aload_n 0, 1) := by decide +kernel
theorem dX9_isMemory_1 : decode cX9_isMemory 1 = .ok (.getfield 68, 3) := by decide +kernel
theorem dX9_isMemory_4 : decode cX9_isMemory 4 = .ok (.bipush 40, 2) := by decide +kernel
theorem dX9_isMemory_6 : decode cX9_isMemory 6 = .ok (.if_icmp .lt 23, 3) := by decide +kernel
theorem dX9_isMemory_9 : decode cX9_isMemory 9 = .ok (.aload_n 0, 1) := by decide +kernel
theorem dX9_isMemory_10 : decode cX9_isMemory 10 = .ok (.getfield 68, 3) := by decide +kernel
theorem dX9_isMemory_13 : decode cX9_isMemory 13 = .ok (.bipush 48, 2) := by decide +kernel
theorem dX9_isMemory_15 : decode cX9_isMemory 15 = .ok (.if_icmp .ge 14, 3) := by decide +kernel
theorem dX9_isMemory_18 : decode cX9_isMemory 18 = .ok (.aload_n 0, 1) := by decide +kernel
theorem dX9_isMemory_19 : decode cX9_isMemory 19 = .ok (.getfield 71, 3) := by decide +kernel
theorem dX9_isMemory_22 : decode cX9_isMemory 22 = .ok (.ifCond .le 7, 3) := by decide +kernel
theorem dX9_isMemory_25 : decode cX9_isMemory 25 = .ok (.iconst 1, 1) := by decide +kernel
theorem dX9_isMemory_26 : decode cX9_isMemory 26 = .ok (.goto 4, 3) := by decide +kernel
theorem dX9_isMemory_29 : decode cX9_isMemory 29 = .ok (.iconst 0, 1) := by decide +kernel
theorem dX9_isMemory_30 : decode cX9_isMemory 30 = .ok (.ireturn, 1) := by decide +kernel
set_option maxRecDepth 20000 in
theorem ggX9_find_X9_need_1 : ∀ w ∈ ([.fieldLink RX9 96 "ScoreboardCoreModel" "needs" "I"] : List Cond), w ∈ wsX9_find := List.forall_mem_cons.mpr ⟨List.mem_of_getElem? (i := 1) rfl, fun _ h => nomatch h⟩
set_option maxRecDepth 20000 in
theorem ggX9_find_X9_need_2 : ∀ w ∈ wsX90, w ∈ wsX9_find := fun w h => List.mem_cons_of_mem _ (List.mem_append_right _ (h))
theorem ggX9_find_X9_need_m : ∀ w ∈ wsX9_need, w ∈ wsX9_find := fun w h => (List.mem_cons.mp h).elim (fun e => by rw [e]; exact List.mem_of_getElem? (i := 11) rfl) (fun h => (List.mem_append.mp h).elim (fun h => ggX9_find_X9_need_1 w h) (fun h => ggX9_find_X9_need_2 w h))
set_option maxRecDepth 20000 in
theorem ggX9_find_X9_need : GoodIn wsX9_find wsX9_need := goodIn_sub ggX9_find_X9_need_m (by decide +kernel)
set_option maxRecDepth 20000 in
theorem ggX9_find_X9_give_1 : ∀ w ∈ ([.fieldLink RX9 99 "ScoreboardCoreModel" "gives" "I"] : List Cond), w ∈ wsX9_find := List.forall_mem_cons.mpr ⟨List.mem_of_getElem? (i := 2) rfl, fun _ h => nomatch h⟩
set_option maxRecDepth 20000 in
theorem ggX9_find_X9_give_2 : ∀ w ∈ wsX90, w ∈ wsX9_find := fun w h => List.mem_cons_of_mem _ (List.mem_append_right _ (h))
theorem ggX9_find_X9_give_m : ∀ w ∈ wsX9_give, w ∈ wsX9_find := fun w h => (List.mem_cons.mp h).elim (fun e => by rw [e]; exact List.mem_of_getElem? (i := 15) rfl) (fun h => (List.mem_append.mp h).elim (fun h => ggX9_find_X9_give_1 w h) (fun h => ggX9_find_X9_give_2 w h))
set_option maxRecDepth 20000 in
theorem ggX9_find_X9_give : GoodIn wsX9_find wsX9_give := goodIn_sub ggX9_find_X9_give_m (by decide +kernel)
set_option maxRecDepth 20000 in
theorem ggX9_find_X9_isMemory_1 : ∀ w ∈ ([.fieldLink RX9 68 "ScoreboardCoreModel" "op" "I", .fieldLink RX9 71 "ScoreboardCoreModel" "i" "I"] : List Cond), w ∈ wsX9_find := List.forall_mem_cons.mpr ⟨List.mem_of_getElem? (i := 3) rfl, List.forall_mem_cons.mpr ⟨List.mem_of_getElem? (i := 6) rfl, fun _ h => nomatch h⟩⟩
set_option maxRecDepth 20000 in
theorem ggX9_find_X9_isMemory_2 : ∀ w ∈ wsX90, w ∈ wsX9_find := fun w h => List.mem_cons_of_mem _ (List.mem_append_right _ (h))
theorem ggX9_find_X9_isMemory_m : ∀ w ∈ wsX9_isMemory, w ∈ wsX9_find := fun w h => (List.mem_cons.mp h).elim (fun e => by rw [e]; exact List.mem_of_getElem? (i := 19) rfl) (fun h => (List.mem_append.mp h).elim (fun h => ggX9_find_X9_isMemory_1 w h) (fun h => ggX9_find_X9_isMemory_2 w h))
set_option maxRecDepth 20000 in
theorem ggX9_find_X9_isMemory : GoodIn wsX9_find wsX9_isMemory := goodIn_sub ggX9_find_X9_isMemory_m (by decide +kernel)
theorem dX9_find_0 : decode cX9_find 0 = .ok (.aload_n 0, 1) := by decide +kernel
theorem dX9_find_1 : decode cX9_find 1 = .ok (.iconst 0, 1) := by decide +kernel
theorem dX9_find_2 : decode cX9_find 2 = .ok (.putfield 96, 3) := by decide +kernel
theorem dX9_find_5 : decode cX9_find 5 = .ok (.aload_n 0, 1) := by decide +kernel
theorem dX9_find_6 : decode cX9_find 6 = .ok (.iconst 0, 1) := by decide +kernel
theorem dX9_find_7 : decode cX9_find 7 = .ok (.putfield 99, 3) := by decide +kernel
theorem dX9_find_10 : decode cX9_find 10 = .ok (.aload_n 0, 1) := by decide +kernel
theorem dX9_find_11 : decode cX9_find 11 = .ok (.getfield 68, 3) := by decide +kernel
theorem dX9_find_14 : decode cX9_find 14 = .ok (.bipush 40, 2) := by decide +kernel
theorem dX9_find_16 : decode cX9_find 16 = .ok (.if_icmp .lt 181, 3) := by decide +kernel
theorem dX9_find_19 : decode cX9_find 19 = .ok (.aload_n 0, 1) := by decide +kernel
theorem dX9_find_20 : decode cX9_find 20 = .ok (.getfield 68, 3) := by decide +kernel
theorem dX9_find_23 : decode cX9_find 23 = .ok (.bipush 8, 2) := by decide +kernel
theorem dX9_find_25 : decode cX9_find 25 = .ok (.irem, 1) := by decide +kernel
theorem dX9_find_26 : decode cX9_find 26 = .ok (.istore_n 1, 1) := by decide +kernel
theorem dX9_find_27 : decode cX9_find 27 = .ok (.iload_n 1, 1) := by decide +kernel
theorem dX9_find_28 : decode cX9_find 28 = .ok (.ifCond .eq 13, 3) := by decide +kernel
theorem dX9_find_31 : decode cX9_find 31 = .ok (.iload_n 1, 1) := by decide +kernel
theorem dX9_find_32 : decode cX9_find 32 = .ok (.iconst 4, 1) := by decide +kernel
theorem dX9_find_33 : decode cX9_find 33 = .ok (.if_icmp .eq 8, 3) := by decide +kernel
theorem dX9_find_36 : decode cX9_find 36 = .ok (.iload_n 1, 1) := by decide +kernel
theorem dX9_find_37 : decode cX9_find 37 = .ok (.iconst 5, 1) := by decide +kernel
theorem dX9_find_38 : decode cX9_find 38 = .ok (.if_icmp .ne 17, 3) := by decide +kernel
theorem dX9_find_41 : decode cX9_find 41 = .ok (.aload_n 0, 1) := by decide +kernel
theorem dX9_find_42 : decode cX9_find 42 = .ok (.bipush 8, 2) := by decide +kernel
theorem dX9_find_44 : decode cX9_find 44 = .ok (.aload_n 0, 1) := by decide +kernel
theorem dX9_find_45 : decode cX9_find 45 = .ok (.getfield 83, 3) := by decide +kernel
theorem dX9_find_48 : decode cX9_find 48 = .ok (.iadd, 1) := by decide +kernel
theorem dX9_find_49 : decode cX9_find 49 = .ok (.invokevirtual 102, 3) := by decide +kernel
theorem dX9_find_52 : decode cX9_find 52 = .ok (.goto 35, 3) := by decide +kernel
theorem dX9_find_55 : decode cX9_find 55 = .ok (.iload_n 1, 1) := by decide +kernel
theorem dX9_find_56 : decode cX9_find 56 = .ok (.iconst 2, 1) := by decide +kernel
theorem dX9_find_57 : decode cX9_find 57 = .ok (.if_icmp .eq 8, 3) := by decide +kernel
theorem dX9_find_60 : decode cX9_find 60 = .ok (.iload_n 1, 1) := by decide +kernel
theorem dX9_find_61 : decode cX9_find 61 = .ok (.iconst 3, 1) := by decide +kernel
theorem dX9_find_62 : decode cX9_find 62 = .ok (.if_icmp .ne 14, 3) := by decide +kernel
theorem dX9_find_65 : decode cX9_find 65 = .ok (.aload_n 0, 1) := by decide +kernel
theorem dX9_find_66 : decode cX9_find 66 = .ok (.aload_n 0, 1) := by decide +kernel
theorem dX9_find_67 : decode cX9_find 67 = .ok (.getfield 83, 3) := by decide +kernel
