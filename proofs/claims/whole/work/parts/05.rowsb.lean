theorem dX9_init_0 : decode cX9_init 0 = .ok (.aload_n 0, 1) := by decide +kernel
theorem dX9_init_1 : decode cX9_init 1 = .ok (.invokespecial 1, 3) := by decide +kernel
theorem dX9_init_4 : decode cX9_init 4 = .ok (.aload_n 0, 1) := by decide +kernel
theorem dX9_init_5 : decode cX9_init 5 = .ok (.sipush 512, 3) := by decide +kernel
theorem dX9_init_8 : decode cX9_init 8 = .ok (.newarray .long, 2) := by decide +kernel
theorem dX9_init_10 : decode cX9_init 10 = .ok (.putfield 7, 3) := by decide +kernel
theorem dX9_init_13 : decode cX9_init 13 = .ok (.aload_n 0, 1) := by decide +kernel
theorem dX9_init_14 : decode cX9_init 14 = .ok (.sipush 512, 3) := by decide +kernel
theorem dX9_init_17 : decode cX9_init 17 = .ok (.newarray .long, 2) := by decide +kernel
theorem dX9_init_19 : decode cX9_init 19 = .ok (.putfield 13, 3) := by decide +kernel
theorem dX9_init_22 : decode cX9_init 22 = .ok (.aload_n 0, 1) := by decide +kernel
theorem dX9_init_23 : decode cX9_init 23 = .ok (.bipush 24, 2) := by decide +kernel
theorem dX9_init_25 : decode cX9_init 25 = .ok (.newarray .long, 2) := by decide +kernel
theorem dX9_init_27 : decode cX9_init 27 = .ok (.putfield 16, 3) := by decide +kernel
theorem dX9_init_30 : decode cX9_init 30 = .ok (.aload_n 0, 1) := by decide +kernel
theorem dX9_init_31 : decode cX9_init 31 = .ok (.iconst 3, 1) := by decide +kernel
theorem dX9_init_32 : decode cX9_init 32 = .ok (.putfield 19, 3) := by decide +kernel
theorem dX9_init_35 : decode cX9_init 35 = .ok (.aload_n 0, 1) := by decide +kernel
theorem dX9_init_36 : decode cX9_init 36 = .ok (.bipush 8, 2) := by decide +kernel
theorem dX9_init_38 : decode cX9_init 38 = .ok (.newarray .int, 2) := by decide +kernel
theorem dX9_init_40 : decode cX9_init 40 = .ok (.putfield 23, 3) := by decide +kernel
theorem dX9_init_43 : decode cX9_init 43 = .ok (.aload_n 0, 1) := by decide +kernel
theorem dX9_init_44 : decode cX9_init 44 = .ok (.iconst 5, 1) := by decide +kernel
theorem dX9_init_45 : decode cX9_init 45 = .ok (.newarray .long, 2) := by decide +kernel
theorem dX9_init_47 : decode cX9_init 47 = .ok (.putfield 27, 3) := by decide +kernel
theorem dX9_init_50 : decode cX9_init 50 = .ok (.aload_n 0, 1) := by decide +kernel
theorem dX9_init_51 : decode cX9_init 51 = .ok (.bipush 24, 2) := by decide +kernel
theorem dX9_init_53 : decode cX9_init 53 = .ok (.newarray .long, 2) := by decide +kernel
theorem dX9_init_55 : decode cX9_init 55 = .ok (.putfield 30, 3) := by decide +kernel
theorem dX9_init_58 : decode cX9_init 58 = .ok (.aload_n 0, 1) := by decide +kernel
theorem dX9_init_59 : decode cX9_init 59 = .ok (.bipush 24, 2) := by decide +kernel
theorem dX9_init_61 : decode cX9_init 61 = .ok (.newarray .long, 2) := by decide +kernel
theorem dX9_init_63 : decode cX9_init 63 = .ok (.putfield 33, 3) := by decide +kernel
theorem dX9_init_66 : decode cX9_init 66 = .ok (.aload_n 0, 1) := by decide +kernel
theorem dX9_init_67 : decode cX9_init 67 = .ok (.bipush 6, 2) := by decide +kernel
theorem dX9_init_69 : decode cX9_init 69 = .ok (.newarray .long, 2) := by decide +kernel
theorem dX9_init_71 : decode cX9_init 71 = .ok (.putfield 36, 3) := by decide +kernel
theorem dX9_init_74 : decode cX9_init 74 = .ok (.return_, 1) := by decide +kernel
theorem dX9_thrown_0 : decode cX9_thrown 0 = .ok (.aload_n 0, 1) := by decide +kernel
theorem dX9_thrown_1 : decode cX9_thrown 1 = .ok (.getfield 39, 3) := by decide +kernel
theorem dX9_thrown_4 : decode cX9_thrown 4 = .ok (.ireturn, 1) := by decide +kernel
theorem dX9_write_0 : decode cX9_write 0 = .ok (.aload_n 0, 1) := by decide +kernel
theorem dX9_write_1 : decode cX9_write 1 = .ok (.iload_n 1, 1) := by decide +kernel
theorem dX9_write_2 : decode cX9_write 2 = .ok (.ifCond .lt 10, 3) := by decide +kernel
theorem dX9_write_5 : decode cX9_write 5 = .ok (.iload_n 1, 1) := by decide +kernel
theorem dX9_write_6 : decode cX9_write 6 = .ok (.sipush 512, 3) := by decide +kernel
theorem dX9_write_9 : decode cX9_write 9 = .ok (.if_icmp .lt 7, 3) := by decide +kernel
theorem dX9_write_12 : decode cX9_write 12 = .ok (.iconst 1, 1) := by decide +kernel
theorem dX9_write_13 : decode cX9_write 13 = .ok (.goto 4, 3) := by decide +kernel
theorem dX9_write_16 : decode cX9_write 16 = .ok (.iconst 0, 1) := by decide +kernel
theorem dX9_write_17 : decode cX9_write 17 = .ok (.putfield 39, 3) := by decide +kernel
theorem dX9_write_20 : decode cX9_write 20 = .ok (.aload_n 0, 1) := by decide +kernel
theorem dX9_write_21 : decode cX9_write 21 = .ok (.getfield 39, 3) := by decide +kernel
theorem dX9_write_24 : decode cX9_write 24 = .ok (.ifCond .le 5, 3) := by decide +kernel
theorem dX9_write_27 : decode cX9_write 27 = .ok (.lconst 0, 1) := by decide +kernel
theorem dX9_write_28 : decode cX9_write 28 = .ok (.lreturn, 1) := by decide +kernel
theorem dX9_write_29 : decode cX9_write 29 = .ok (.aload_n 0, 1) := by decide +kernel
theorem dX9_write_30 : decode cX9_write 30 = .ok (.getfield 7, 3) := by decide +kernel
theorem dX9_write_33 : decode cX9_write 33 = .ok (.iload_n 1, 1) := by decide +kernel
theorem dX9_write_34 : decode cX9_write 34 = .ok (.laload, 1) := by decide +kernel
theorem dX9_write_35 : decode cX9_write 35 = .ok (.lstore 4, 2) := by decide +kernel
theorem dX9_write_37 : decode cX9_write 37 = .ok (.aload_n 0, 1) := by decide +kernel
theorem dX9_write_38 : decode cX9_write 38 = .ok (.getfield 7, 3) := by decide +kernel
theorem dX9_write_41 : decode cX9_write 41 = .ok (.iload_n 1, 1) := by decide +kernel
theorem dX9_write_42 : decode cX9_write 42 = .ok (.lload_n 2, 1) := by decide +kernel
theorem dX9_write_43 : decode cX9_write 43 = .ok (.ldc2_w 42, 3) := by decide +kernel
theorem dX9_write_46 : decode cX9_write 46 = .ok (.land, 1) := by decide +kernel
theorem dX9_write_47 : decode cX9_write 47 = .ok (.lastore, 1) := by decide +kernel
theorem dX9_write_48 : decode cX9_write 48 = .ok (.lload 4, 2) := by decide +kernel
theorem dX9_write_50 : decode cX9_write 50 = .ok (.lreturn, 1) := by decide +kernel
theorem dX9_read_0 : decode cX9_read 0 = .ok (.aload_n 0, 1) := by decide +kernel
theorem dX9_read_1 : decode cX9_read 1 = .ok (.iload_n 1, 1) := by decide +kernel
theorem dX9_read_2 : decode cX9_read 2 = .ok (.ifCond .lt 10, 3) := by decide +kernel
theorem dX9_read_5 : decode cX9_read 5 = .ok (.iload_n 1, 1) := by decide +kernel
theorem dX9_read_6 : decode cX9_read 6 = .ok (.sipush 512, 3) := by decide +kernel
theorem dX9_read_9 : decode cX9_read 9 = .ok (.if_icmp .lt 7, 3) := by decide +kernel
theorem dX9_read_12 : decode cX9_read 12 = .ok (.iconst 1, 1) := by decide +kernel
theorem dX9_read_13 : decode cX9_read 13 = .ok (.goto 4, 3) := by decide +kernel
theorem dX9_read_16 : decode cX9_read 16 = .ok (.iconst 0, 1) := by decide +kernel
theorem dX9_read_17 : decode cX9_read 17 = .ok (.putfield 39, 3) := by decide +kernel
theorem dX9_read_20 : decode cX9_read 20 = .ok (.aload_n 0, 1) := by decide +kernel
theorem dX9_read_21 : decode cX9_read 21 = .ok (.getfield 39, 3) := by decide +kernel
theorem dX9_read_24 : decode cX9_read 24 = .ok (.ifCond .le 7, 3) := by decide +kernel
theorem dX9_read_27 : decode cX9_read 27 = .ok (.lconst 0, 1) := by decide +kernel
theorem dX9_read_28 : decode cX9_read 28 = .ok (.goto 9, 3) := by decide +kernel
theorem dX9_read_31 : decode cX9_read 31 = .ok (.aload_n 0, 1) := by decide +kernel
theorem dX9_read_32 : decode cX9_read 32 = .ok (.getfield 7, 3) := by decide +kernel
theorem dX9_read_35 : decode cX9_read 35 = .ok (.iload_n 1, 1) := by decide +kernel
theorem dX9_read_36 : decode cX9_read 36 = .ok (.laload, 1) := by decide +kernel
theorem dX9_read_37 : decode cX9_read 37 = .ok (.lreturn, 1) := by decide +kernel
theorem dX9_register_0 : decode cX9_register 0 = .ok (.aload_n 0, 1) := by decide +kernel
theorem dX9_register_1 : decode cX9_register 1 = .ok (.iload_n 1, 1) := by decide +kernel
theorem dX9_register_2 : decode cX9_register 2 = .ok (.ifCond .lt 9, 3) := by decide +kernel
theorem dX9_register_5 : decode cX9_register 5 = .ok (.iload_n 1, 1) := by decide +kernel
theorem dX9_register_6 : decode cX9_register 6 = .ok (.bipush 23, 2) := by decide +kernel
theorem dX9_register_8 : decode cX9_register 8 = .ok (.if_icmp .le 7, 3) := by decide +kernel
theorem dX9_register_11 : decode cX9_register 11 = .ok (.iconst 1, 1) := by decide +kernel
theorem dX9_register_12 : decode cX9_register 12 = .ok (.goto 4, 3) := by decide +kernel
theorem dX9_register_15 : decode cX9_register 15 = .ok (.iconst 0, 1) := by decide +kernel
theorem dX9_register_16 : decode cX9_register 16 = .ok (.putfield 39, 3) := by decide +kernel
theorem dX9_register_19 : decode cX9_register 19 = .ok (.aload_n 0, 1) := by decide +kernel
theorem dX9_register_20 : decode cX9_register 20 = .ok (.getfield 39, 3) := by decide +kernel
theorem dX9_register_23 : decode cX9_register 23 = .ok (.ifCond .le 7, 3) := by decide +kernel
theorem dX9_register_26 : decode cX9_register 26 = .ok (.lconst 0, 1) := by decide +kernel
theorem dX9_register_27 : decode cX9_register 27 = .ok (.goto 9, 3) := by decide +kernel
theorem dX9_register_30 : decode cX9_register 30 = .ok (.aload_n 0, 1) := by decide +kernel
theorem dX9_register_31 : decode cX9_register 31 = .ok (.getfield 16, 3) := by decide +kernel
theorem dX9_register_34 : decode cX9_register 34 = .ok (.iload_n 1, 1) := by decide +kernel
theorem dX9_register_35 : decode cX9_register 35 = .ok (.laload, 1) := by decide +kernel
theorem dX9_register_36 : decode cX9_register 36 = .ok (.lreturn, 1) := by decide +kernel
theorem dX9_set_0 : decode cX9_set 0 = .ok (.iload_n 1, 1) := by decide +kernel
theorem dX9_set_1 : decode cX9_set 1 = .ok (.bipush 16, 2) := by decide +kernel
theorem dX9_set_3 : decode cX9_set 3 = .ok (.if_icmp .eq 28, 3) := by decide +kernel
theorem dX9_set_6 : decode cX9_set 6 = .ok (.aload_n 0, 1) := by decide +kernel
theorem dX9_set_7 : decode cX9_set 7 = .ok (.getfield 16, 3) := by decide +kernel
theorem dX9_set_10 : decode cX9_set 10 = .ok (.iload_n 1, 1) := by decide +kernel
theorem dX9_set_11 : decode cX9_set 11 = .ok (.iload_n 1, 1) := by decide +kernel
theorem dX9_set_12 : decode cX9_set 12 = .ok (.bipush 8, 2) := by decide +kernel
theorem dX9_set_14 : decode cX9_set 14 = .ok (.if_icmp .ge 11, 3) := by decide +kernel
theorem dX9_set_17 : decode cX9_set 17 = .ok (.lload_n 2, 1) := by decide +kernel
theorem dX9_set_18 : decode cX9_set 18 = .ok (.ldc2_w 42, 3) := by decide +kernel
theorem dX9_set_21 : decode cX9_set 21 = .ok (.land, 1) := by decide +kernel
theorem dX9_set_22 : decode cX9_set 22 = .ok (.goto 8, 3) := by decide +kernel
theorem dX9_set_25 : decode cX9_set 25 = .ok (.lload_n 2, 1) := by decide +kernel
theorem dX9_set_26 : decode cX9_set 26 = .ok (.ldc2_w 44, 3) := by decide +kernel
theorem dX9_set_29 : decode cX9_set 29 = .ok (.land, 1) := by decide +kernel
theorem dX9_set_30 : decode cX9_set 30 = .ok (.lastore, 1) := by decide +kernel
theorem dX9_set_31 : decode cX9_set 31 = .ok (.return_, 1) := by decide +kernel
set_option maxRecDepth 20000 in
theorem ggX9_put_X9_set : GoodIn wsX9_put wsX9_set := goodIn_r _ [6, 7, 8, 9, 10, 11, 12, 13, 14, 15, 16, 17, 18, 19, 20, 21, 22, 23, 24, 25, 26, 27, 28, 29, 30, 31, 32, 33] (by decide +kernel) (by decide +kernel)
set_option maxRecDepth 20000 in
theorem gX9_put_X9_set : GoodIn wsX9_put (wsV RX9 46 RX9 yX9_set wsX9_set) := goodIn_app (goodIn_of _ (by decide +kernel)) ggX9_put_X9_set
theorem dX9_put_0 : decode cX9_put 0 = .ok (.aload_n 0, 1) := by decide +kernel
theorem dX9_put_1 : decode cX9_put 1 = .ok (.iload_n 1, 1) := by decide +kernel
theorem dX9_put_2 : decode cX9_put 2 = .ok (.ifCond .lt 9, 3) := by decide +kernel
theorem dX9_put_5 : decode cX9_put 5 = .ok (.iload_n 1, 1) := by decide +kernel
theorem dX9_put_6 : decode cX9_put 6 = .ok (.bipush 23, 2) := by decide +kernel
theorem dX9_put_8 : decode cX9_put 8 = .ok (.if_icmp .le 7, 3) := by decide +kernel
theorem dX9_put_11 : decode cX9_put 11 = .ok (.iconst 1, 1) := by decide +kernel
theorem dX9_put_12 : decode cX9_put 12 = .ok (.goto 4, 3) := by decide +kernel
theorem dX9_put_15 : decode cX9_put 15 = .ok (.iconst 0, 1) := by decide +kernel
theorem dX9_put_16 : decode cX9_put 16 = .ok (.putfield 39, 3) := by decide +kernel
theorem dX9_put_19 : decode cX9_put 19 = .ok (.aload_n 0, 1) := by decide +kernel
theorem dX9_put_20 : decode cX9_put 20 = .ok (.getfield 39, 3) := by decide +kernel
theorem dX9_put_23 : decode cX9_put 23 = .ok (.ifCond .ne 9, 3) := by decide +kernel
theorem dX9_put_26 : decode cX9_put 26 = .ok (.aload_n 0, 1) := by decide +kernel
theorem dX9_put_27 : decode cX9_put 27 = .ok (.iload_n 1, 1) := by decide +kernel
theorem dX9_put_28 : decode cX9_put 28 = .ok (.lload_n 2, 1) := by decide +kernel
theorem dX9_put_29 : decode cX9_put 29 = .ok (.invokevirtual 46, 3) := by decide +kernel
theorem dX9_put_32 : decode cX9_put 32 = .ok (.return_, 1) := by decide +kernel
theorem dX9_start_0 : decode cX9_start 0 = .ok (.aload_n 0, 1) := by decide +kernel
theorem dX9_start_1 : decode cX9_start 1 = .ok (.iload_n 1, 1) := by decide +kernel
theorem dX9_start_2 : decode cX9_start 2 = .ok (.ifCond .lt 10, 3) := by decide +kernel
theorem dX9_start_5 : decode cX9_start 5 = .ok (.iload_n 1, 1) := by decide +kernel
theorem dX9_start_6 : decode cX9_start 6 = .ok (.sipush 512, 3) := by decide +kernel
theorem dX9_start_9 : decode cX9_start 9 = .ok (.if_icmp .lt 7, 3) := by decide +kernel
theorem dX9_start_12 : decode cX9_start 12 = .ok (.iconst 1, 1) := by decide +kernel
theorem dX9_start_13 : decode cX9_start 13 = .ok (.goto 4, 3) := by decide +kernel
theorem dX9_start_16 : decode cX9_start 16 = .ok (.iconst 0, 1) := by decide +kernel
theorem dX9_start_17 : decode cX9_start 17 = .ok (.putfield 39, 3) := by decide +kernel
theorem dX9_start_20 : decode cX9_start 20 = .ok (.aload_n 0, 1) := by decide +kernel
theorem dX9_start_21 : decode cX9_start 21 = .ok (.getfield 39, 3) := by decide +kernel
theorem dX9_start_24 : decode cX9_start 24 = .ok (.ifCond .ne 18, 3) := by decide +kernel
theorem dX9_start_27 : decode cX9_start 27 = .ok (.aload_n 0, 1) := by decide +kernel
theorem dX9_start_28 : decode cX9_start 28 = .ok (.iload_n 1, 1) := by decide +kernel
theorem dX9_start_29 : decode cX9_start 29 = .ok (.putfield 50, 3) := by decide +kernel
theorem dX9_start_32 : decode cX9_start 32 = .ok (.aload_n 0, 1) := by decide +kernel
theorem dX9_start_33 : decode cX9_start 33 = .ok (.iconst 0, 1) := by decide +kernel
theorem dX9_start_34 : decode cX9_start 34 = .ok (.putfield 53, 3) := by decide +kernel
theorem dX9_start_37 : decode cX9_start 37 = .ok (.aload_n 0, 1) := by decide +kernel
theorem dX9_start_38 : decode cX9_start 38 = .ok (.iconst 3, 1) := by decide +kernel
theorem dX9_start_39 : decode cX9_start 39 = .ok (.putfield 19, 3) := by decide +kernel
theorem dX9_start_42 : decode cX9_start 42 = .ok (.return_, 1) := by decide +kernel
theorem dX9_sum_0 : decode cX9_sum 0 = .ok (.lload_n 0, 1) := by decide +kernel
theorem dX9_sum_1 : decode cX9_sum 1 = .ok (.lload_n 2, 1) := by decide +kernel
theorem dX9_sum_2 : decode cX9_sum 2 = .ok (.ladd, 1) := by decide +kernel
theorem dX9_sum_3 : decode cX9_sum 3 = .ok (.lstore 6, 2) := by decide +kernel
theorem dX9_sum_5 : decode cX9_sum 5 = .ok (.lload 6, 2) := by decide +kernel
theorem dX9_sum_7 : decode cX9_sum 7 = .ok (.lload 4, 2) := by decide +kernel
theorem dX9_sum_9 : decode cX9_sum 9 = .ok (.lcmp, 1) := by decide +kernel
theorem dX9_sum_10 : decode cX9_sum 10 = .ok (.ifCond .le 11, 3) := by decide +kernel
theorem dX9_sum_13 : decode cX9_sum 13 = .ok (.lload 6, 2) := by decide +kernel
theorem dX9_sum_15 : decode cX9_sum 15 = .ok (.lload 4, 2) := by decide +kernel
theorem dX9_sum_17 : decode cX9_sum 17 = .ok (.lsub, 1) := by decide +kernel
theorem dX9_sum_18 : decode cX9_sum 18 = .ok (.goto 5, 3) := by decide +kernel
theorem dX9_sum_21 : decode cX9_sum 21 = .ok (.lload 6, 2) := by decide +kernel
theorem dX9_sum_23 : decode cX9_sum 23 = .ok (.lstore 6, 2) := by decide +kernel
theorem dX9_sum_25 : decode cX9_sum 25 = .ok (.lload 6, 2) := by decide +kernel
theorem dX9_sum_27 : decode cX9_sum 27 = .ok (.lload 4, 2) := by decide +kernel
theorem dX9_sum_29 : decode cX9_sum 29 = .ok (.lcmp, 1) := by decide +kernel
theorem dX9_sum_30 : decode cX9_sum 30 = .ok (.ifCond .ne 21, 3) := by decide +kernel
theorem dX9_sum_33 : decode cX9_sum 33 = .ok (.lload_n 0, 1) := by decide +kernel
theorem dX9_sum_34 : decode cX9_sum 34 = .ok (.lload 4, 2) := by decide +kernel
theorem dX9_sum_36 : decode cX9_sum 36 = .ok (.lcmp, 1) := by decide +kernel
theorem dX9_sum_37 : decode cX9_sum 37 = .ok (.ifCond .ne 10, 3) := by decide +kernel
theorem dX9_sum_40 : decode cX9_sum 40 = .ok (.lload_n 2, 1) := by decide +kernel
theorem dX9_sum_41 : decode cX9_sum 41 = .ok (.lload 4, 2) := by decide +kernel
theorem dX9_sum_43 : decode cX9_sum 43 = .ok (.lcmp, 1) := by decide +kernel
theorem dX9_sum_44 : decode cX9_sum 44 = .ok (.ifCond .eq 7, 3) := by decide +kernel
theorem dX9_sum_47 : decode cX9_sum 47 = .ok (.lconst 0, 1) := by decide +kernel
theorem dX9_sum_48 : decode cX9_sum 48 = .ok (.goto 5, 3) := by decide +kernel
theorem dX9_sum_51 : decode cX9_sum 51 = .ok (.lload 6, 2) := by decide +kernel
theorem dX9_sum_53 : decode cX9_sum 53 = .ok (.lreturn, 1) := by decide +kernel
set_option maxRecDepth 20000 in
theorem ggX9_less_X9_sum : GoodIn wsX9_less wsX9_sum := goodIn_r _ [4] (by decide +kernel) (by decide +kernel)
set_option maxRecDepth 20000 in
theorem gX9_less_X9_sum : GoodIn wsX9_less (va_wsS RX9 56 yX9_sum wsX9_sum) := goodIn_app (goodIn_of _ (by decide +kernel)) ggX9_less_X9_sum
theorem dX9_less_0 : decode cX9_less 0 = .ok (.lload_n 0, 1) := by decide +kernel
theorem dX9_less_1 : decode cX9_less 1 = .ok (.lload 4, 2) := by decide +kernel
theorem dX9_less_3 : decode cX9_less 3 = .ok (.lload_n 2, 1) := by decide +kernel
theorem dX9_less_4 : decode cX9_less 4 = .ok (.lsub, 1) := by decide +kernel
theorem dX9_less_5 : decode cX9_less 5 = .ok (.lload 4, 2) := by decide +kernel
theorem dX9_less_7 : decode cX9_less 7 = .ok (.invokestatic 56, 3) := by decide +kernel
theorem dX9_less_10 : decode cX9_less 10 = .ok (.lreturn, 1) := by decide +kernel
theorem dX9_signed_0 : decode cX9_signed 0 = .ok (.lload_n 0, 1) := by decide +kernel
theorem dX9_signed_1 : decode cX9_signed 1 = .ok (.lload_n 2, 1) := by decide +kernel
theorem dX9_signed_2 : decode cX9_signed 2 = .ok (.ldc2_w 60, 3) := by decide +kernel
theorem dX9_signed_5 : decode cX9_signed 5 = .ok (.ldiv, 1) := by decide +kernel
theorem dX9_signed_6 : decode cX9_signed 6 = .ok (.lcmp, 1) := by decide +kernel
theorem dX9_signed_7 : decode cX9_signed 7 = .ok (.ifCond .le 9, 3) := by decide +kernel
theorem dX9_signed_10 : decode cX9_signed 10 = .ok (.lload_n 0, 1) := by decide +kernel
theorem dX9_signed_11 : decode cX9_signed 11 = .ok (.lload_n 2, 1) := by decide +kernel
theorem dX9_signed_12 : decode cX9_signed 12 = .ok (.lsub, 1) := by decide +kernel
theorem dX9_signed_13 : decode cX9_signed 13 = .ok (.goto 4, 3) := by decide +kernel
theorem dX9_signed_16 : decode cX9_signed 16 = .ok (.lload_n 0, 1) := by decide +kernel
theorem dX9_signed_17 : decode cX9_signed 17 = .ok (.lreturn, 1) := by decide +kernel
theorem dX9_extended_0 : decode cX9_extended 0 = .ok (.lload_n 0, 1) := by decide +kernel
theorem dX9_extended_1 : decode cX9_extended 1 = .ok (.ldc2_w 62, 3) := by decide +kernel
theorem dX9_extended_4 : decode cX9_extended 4 = .ok (.lcmp, 1) := by decide +kernel
theorem dX9_extended_5 : decode cX9_extended 5 = .ok (.ifCond .le 11, 3) := by decide +kernel
theorem dX9_extended_8 : decode cX9_extended 8 = .ok (.lload_n 0, 1) := by decide +kernel
theorem dX9_extended_9 : decode cX9_extended 9 = .ok (.ldc2_w 64, 3) := by decide +kernel
theorem dX9_extended_12 : decode cX9_extended 12 = .ok (.lor, 1) := by decide +kernel
theorem dX9_extended_13 : decode cX9_extended 13 = .ok (.goto 4, 3) := by decide +kernel
theorem dX9_extended_16 : decode cX9_extended 16 = .ok (.lload_n 0, 1) := by decide +kernel
theorem dX9_extended_17 : decode cX9_extended 17 = .ok (.lreturn, 1) := by decide +kernel
theorem dX9_round_0 : decode cX9_round 0 = .ok (.lload_n 0, 1) := by decide +kernel
theorem dX9_round_1 : decode cX9_round 1 = .ok (.lstore_n 3, 1) := by decide +kernel
theorem dX9_round_2 : decode cX9_round 2 = .ok (.iconst 0, 1) := by decide +kernel
theorem dX9_round_3 : decode cX9_round 3 = .ok (.istore 5, 2) := by decide +kernel
theorem dX9_round_5 : decode cX9_round 5 = .ok (.iload 5, 2) := by decide +kernel
theorem dX9_round_7 : decode cX9_round 7 = .ok (.iload_n 2, 1) := by decide +kernel
theorem dX9_round_8 : decode cX9_round 8 = .ok (.bipush 60, 2) := by decide +kernel
theorem dX9_round_10 : decode cX9_round 10 = .ok (.irem, 1) := by decide +kernel
theorem dX9_round_11 : decode cX9_round 11 = .ok (.if_icmp .ge 22, 3) := by decide +kernel
theorem dX9_round_14 : decode cX9_round 14 = .ok (.lload_n 3, 1) := by decide +kernel
theorem dX9_round_15 : decode cX9_round 15 = .ok (.iconst 1, 1) := by decide +kernel
theorem dX9_round_16 : decode cX9_round 16 = .ok (.lshl, 1) := by decide +kernel
theorem dX9_round_17 : decode cX9_round 17 = .ok (.ldc2_w 42, 3) := by decide +kernel
theorem dX9_round_20 : decode cX9_round 20 = .ok (.land, 1) := by decide +kernel
theorem dX9_round_21 : decode cX9_round 21 = .ok (.lload_n 3, 1) := by decide +kernel
theorem dX9_round_22 : decode cX9_round 22 = .ok (.bipush 59, 2) := by decide +kernel
theorem dX9_round_24 : decode cX9_round 24 = .ok (.lshr, 1) := by decide +kernel
theorem dX9_round_25 : decode cX9_round 25 = .ok (.lor, 1) := by decide +kernel
theorem dX9_round_26 : decode cX9_round 26 = .ok (.lstore_n 3, 1) := by decide +kernel
theorem dX9_round_27 : decode cX9_round 27 = .ok (.iinc 5 1, 3) := by decide +kernel
theorem dX9_round_30 : decode cX9_round 30 = .ok (.goto (-25), 3) := by decide +kernel
theorem dX9_round_33 : decode cX9_round 33 = .ok (.lload_n 3, 1) := by decide +kernel
theorem dX9_round_34 : decode cX9_round 34 = .ok (.lreturn, 1) := by decide +kernel
theorem dX9_right_0 : decode cX9_right 0 = .ok (.lload_n 0, 1) := by decide +kernel
theorem dX9_right_1 : decode cX9_right 1 = .ok (.lstore_n 3, 1) := by decide +kernel
theorem dX9_right_2 : decode cX9_right 2 = .ok (.iconst 0, 1) := by decide +kernel
theorem dX9_right_3 : decode cX9_right 3 = .ok (.istore 5, 2) := by decide +kernel
theorem dX9_right_5 : decode cX9_right 5 = .ok (.iload 5, 2) := by decide +kernel
theorem dX9_right_7 : decode cX9_right 7 = .ok (.iload_n 2, 1) := by decide +kernel
theorem dX9_right_8 : decode cX9_right 8 = .ok (.if_icmp .ge 19, 3) := by decide +kernel
theorem dX9_right_11 : decode cX9_right 11 = .ok (.lload_n 3, 1) := by decide +kernel
theorem dX9_right_12 : decode cX9_right 12 = .ok (.iconst 1, 1) := by decide +kernel
theorem dX9_right_13 : decode cX9_right 13 = .ok (.lshr, 1) := by decide +kernel
theorem dX9_right_14 : decode cX9_right 14 = .ok (.lload_n 3, 1) := by decide +kernel
theorem dX9_right_15 : decode cX9_right 15 = .ok (.ldc2_w 66, 3) := by decide +kernel
theorem dX9_right_18 : decode cX9_right 18 = .ok (.land, 1) := by decide +kernel
theorem dX9_right_19 : decode cX9_right 19 = .ok (.lor, 1) := by decide +kernel
theorem dX9_right_20 : decode cX9_right 20 = .ok (.lstore_n 3, 1) := by decide +kernel
theorem dX9_right_21 : decode cX9_right 21 = .ok (.iinc 5 1, 3) := by decide +kernel
theorem dX9_right_24 : decode cX9_right 24 = .ok (.goto (-19), 3) := by decide +kernel
theorem dX9_right_27 : decode cX9_right 27 = .ok (.lload_n 3, 1) := by decide +kernel
theorem dX9_right_28 : decode cX9_right 28 = .ok (.lreturn, 1) := by decide +kernel
theorem dX9_hasNumber_0 : decode cX9_hasNumber 0 = .ok (.iload_n 0, 1) := by decide +kernel
theorem dX9_hasNumber_1 : decode cX9_hasNumber 1 = .ok (.ifCond .le 9, 3) := by decide +kernel
theorem dX9_hasNumber_4 : decode cX9_hasNumber 4 = .ok (.iload_n 0, 1) := by decide +kernel
theorem dX9_hasNumber_5 : decode cX9_hasNumber 5 = .ok (.bipush 8, 2) := by decide +kernel
theorem dX9_hasNumber_7 : decode cX9_hasNumber 7 = .ok (.if_icmp .lt 23, 3) := by decide +kernel
theorem dX9_hasNumber_10 : decode cX9_hasNumber 10 = .ok (.iload_n 0, 1) := by decide +kernel
theorem dX9_hasNumber_11 : decode cX9_hasNumber 11 = .ok (.bipush 40, 2) := by decide +kernel
theorem dX9_hasNumber_13 : decode cX9_hasNumber 13 = .ok (.if_icmp .lt 21, 3) := by decide +kernel
theorem dX9_hasNumber_16 : decode cX9_hasNumber 16 = .ok (.iload_n 0, 1) := by decide +kernel
theorem dX9_hasNumber_17 : decode cX9_hasNumber 17 = .ok (.bipush 64, 2) := by decide +kernel
theorem dX9_hasNumber_19 : decode cX9_hasNumber 19 = .ok (.if_icmp .ge 15, 3) := by decide +kernel
theorem dX9_hasNumber_22 : decode cX9_hasNumber 22 = .ok (.iload_n 0, 1) := by decide +kernel
theorem dX9_hasNumber_23 : decode cX9_hasNumber 23 = .ok (.bipush 8, 2) := by decide +kernel
theorem dX9_hasNumber_25 : decode cX9_hasNumber 25 = .ok (.irem, 1) := by decide +kernel
theorem dX9_hasNumber_26 : decode cX9_hasNumber 26 = .ok (.iconst 3, 1) := by decide +kernel
theorem dX9_hasNumber_27 : decode cX9_hasNumber 27 = .ok (.if_icmp .ge 7, 3) := by decide +kernel
theorem dX9_hasNumber_30 : decode cX9_hasNumber 30 = .ok (.iconst 1, 1) := by decide +kernel
theorem dX9_hasNumber_31 : decode cX9_hasNumber 31 = .ok (.goto 4, 3) := by decide +kernel
theorem dX9_hasNumber_34 : decode cX9_hasNumber 34 = .ok (.iconst 0, 1) := by decide +kernel
theorem dX9_hasNumber_35 : decode cX9_hasNumber 35 = .ok (.ireturn, 1) := by decide +kernel
theorem dX9_isUnknown_0 : decode cX9_isUnknown 0 = .ok (.aload_n 0, 1) := by decide +kernel
theorem dX9_isUnknown_1 : decode cX9_isUnknown 1 = .ok (.getfield 68, 3) := by decide +kernel
theorem dX9_isUnknown_4 : decode cX9_isUnknown 4 = .ok (.bipush 20, 2) := by decide +kernel
theorem dX9_isUnknown_6 : decode cX9_isUnknown 6 = .ok (.if_icmp .lt 57, 3) := by decide +kernel
theorem dX9_isUnknown_9 : decode cX9_isUnknown 9 = .ok (.aload_n 0, 1) := by decide +kernel
theorem dX9_isUnknown_10 : decode cX9_isUnknown 10 = .ok (.getfield 68, 3) := by decide +kernel
theorem dX9_isUnknown_13 : decode cX9_isUnknown 13 = .ok (.bipush 30, 2) := by decide +kernel
theorem dX9_isUnknown_15 : decode cX9_isUnknown 15 = .ok (.if_icmp .eq 48, 3) := by decide +kernel
theorem dX9_isUnknown_18 : decode cX9_isUnknown 18 = .ok (.aload_n 0, 1) := by decide +kernel
theorem dX9_isUnknown_19 : decode cX9_isUnknown 19 = .ok (.getfield 68, 3) := by decide +kernel
theorem dX9_isUnknown_22 : decode cX9_isUnknown 22 = .ok (.bipush 31, 2) := by decide +kernel
theorem dX9_isUnknown_24 : decode cX9_isUnknown 24 = .ok (.if_icmp .eq 39, 3) := by decide +kernel
theorem dX9_isUnknown_27 : decode cX9_isUnknown 27 = .ok (.aload_n 0, 1) := by decide +kernel
theorem dX9_isUnknown_28 : decode cX9_isUnknown 28 = .ok (.getfield 68, 3) := by decide +kernel
theorem dX9_isUnknown_31 : decode cX9_isUnknown 31 = .ok (.bipush 35, 2) := by decide +kernel
theorem dX9_isUnknown_33 : decode cX9_isUnknown 33 = .ok (.if_icmp .eq 30, 3) := by decide +kernel
theorem dX9_isUnknown_36 : decode cX9_isUnknown 36 = .ok (.aload_n 0, 1) := by decide +kernel
theorem dX9_isUnknown_37 : decode cX9_isUnknown 37 = .ok (.getfield 68, 3) := by decide +kernel
theorem dX9_isUnknown_40 : decode cX9_isUnknown 40 = .ok (.bipush 38, 2) := by decide +kernel
theorem dX9_isUnknown_42 : decode cX9_isUnknown 42 = .ok (.if_icmp .eq 21, 3) := by decide +kernel
theorem dX9_isUnknown_45 : decode cX9_isUnknown 45 = .ok (.aload_n 0, 1) := by decide +kernel
theorem dX9_isUnknown_46 : decode cX9_isUnknown 46 = .ok (.getfield 68, 3) := by decide +kernel
theorem dX9_isUnknown_49 : decode cX9_isUnknown 49 = .ok (.bipush 39, 2) := by decide +kernel
theorem dX9_isUnknown_51 : decode cX9_isUnknown 51 = .ok (.if_icmp .eq 12, 3) := by decide +kernel
theorem dX9_isUnknown_54 : decode cX9_isUnknown 54 = .ok (.aload_n 0, 1) := by decide +kernel
theorem dX9_isUnknown_55 : decode cX9_isUnknown 55 = .ok (.getfield 68, 3) := by decide +kernel
theorem dX9_isUnknown_58 : decode cX9_isUnknown 58 = .ok (.bipush 40, 2) := by decide +kernel
theorem dX9_isUnknown_60 : decode cX9_isUnknown 60 = .ok (.if_icmp .lt 7, 3) := by decide +kernel
theorem dX9_isUnknown_63 : decode cX9_isUnknown 63 = .ok (.iconst 1, 1) := by decide +kernel
theorem dX9_isUnknown_64 : decode cX9_isUnknown 64 = .ok (.goto 4, 3) := by decide +kernel
theorem dX9_isUnknown_67 : decode cX9_isUnknown 67 = .ok (.iconst 0, 1) := by decide +kernel
theorem dX9_isUnknown_68 : decode cX9_isUnknown 68 = .ok (.istore_n 1, 1) := by decide +kernel
theorem dX9_isUnknown_69 : decode cX9_isUnknown 69 = .ok (.iload_n 1, 1) := by decide +kernel
theorem dX9_isUnknown_70 : decode cX9_isUnknown 70 = .ok (.ifCond .eq 35, 3) := by decide +kernel
theorem dX9_isUnknown_73 : decode cX9_isUnknown 73 = .ok (.aload_n 0, 1) := by decide +kernel
theorem dX9_isUnknown_74 : decode cX9_isUnknown 74 = .ok (.getfield 68, 3) := by decide +kernel
theorem dX9_isUnknown_77 : decode cX9_isUnknown 77 = .ok (.iconst 3, 1) := by decide +kernel
theorem dX9_isUnknown_78 : decode cX9_isUnknown 78 = .ok (.if_icmp .ne 11, 3) := by decide +kernel
theorem dX9_isUnknown_81 : decode cX9_isUnknown 81 = .ok (.aload_n 0, 1) := by decide +kernel
theorem dX9_isUnknown_82 : decode cX9_isUnknown 82 = .ok (.getfield 71, 3) := by decide +kernel
theorem dX9_isUnknown_85 : decode cX9_isUnknown 85 = .ok (.iconst 3, 1) := by decide +kernel
theorem dX9_isUnknown_86 : decode cX9_isUnknown 86 = .ok (.if_icmp .gt 19, 3) := by decide +kernel
theorem dX9_isUnknown_89 : decode cX9_isUnknown 89 = .ok (.aload_n 0, 1) := by decide +kernel
theorem dX9_isUnknown_90 : decode cX9_isUnknown 90 = .ok (.getfield 74, 3) := by decide +kernel
theorem dX9_isUnknown_93 : decode cX9_isUnknown 93 = .ok (.iconst 2, 1) := by decide +kernel
theorem dX9_isUnknown_94 : decode cX9_isUnknown 94 = .ok (.if_icmp .ne 15, 3) := by decide +kernel
theorem dX9_isUnknown_97 : decode cX9_isUnknown 97 = .ok (.aload_n 0, 1) := by decide +kernel
theorem dX9_isUnknown_98 : decode cX9_isUnknown 98 = .ok (.getfield 53, 3) := by decide +kernel
theorem dX9_isUnknown_101 : decode cX9_isUnknown 101 = .ok (.iconst 3, 1) := by decide +kernel
theorem dX9_isUnknown_102 : decode cX9_isUnknown 102 = .ok (.if_icmp .ne 7, 3) := by decide +kernel
theorem dX9_isUnknown_105 : decode cX9_isUnknown 105 = .ok (.iconst 1, 1) := by decide +kernel
theorem dX9_isUnknown_106 : decode cX9_isUnknown 106 = .ok (.goto 4, 3) := by decide +kernel
theorem dX9_isUnknown_109 : decode cX9_isUnknown 109 = .ok (.iconst 0, 1) := by decide +kernel
theorem dX9_isUnknown_110 : decode cX9_isUnknown 110 = .ok (.ireturn, 1) := by decide +kernel
theorem dX9_parcelAt_0 : decode cX9_parcelAt 0 = .ok (.aload_n 0, 1) := by decide +kernel
theorem dX9_parcelAt_1 : decode cX9_parcelAt 1 = .ok (.getfield 13, 3) := by decide +kernel
theorem dX9_parcelAt_4 : decode cX9_parcelAt 4 = .ok (.aload_n 0, 1) := by decide +kernel
theorem dX9_parcelAt_5 : decode cX9_parcelAt 5 = .ok (.getfield 50, 3) := by decide +kernel
theorem dX9_parcelAt_8 : decode cX9_parcelAt 8 = .ok (.laload, 1) := by decide +kernel
theorem dX9_parcelAt_9 : decode cX9_parcelAt 9 = .ok (.bipush 15, 2) := by decide +kernel
theorem dX9_parcelAt_11 : decode cX9_parcelAt 11 = .ok (.iconst 3, 1) := by decide +kernel
theorem dX9_parcelAt_12 : decode cX9_parcelAt 12 = .ok (.iload_n 1, 1) := by decide +kernel
theorem dX9_parcelAt_13 : decode cX9_parcelAt 13 = .ok (.isub, 1) := by decide +kernel
theorem dX9_parcelAt_14 : decode cX9_parcelAt 14 = .ok (.imul, 1) := by decide +kernel
theorem dX9_parcelAt_15 : decode cX9_parcelAt 15 = .ok (.lshr, 1) := by decide +kernel
theorem dX9_parcelAt_16 : decode cX9_parcelAt 16 = .ok (.ldc2_w 77, 3) := by decide +kernel
theorem dX9_parcelAt_19 : decode cX9_parcelAt 19 = .ok (.land, 1) := by decide +kernel
theorem dX9_parcelAt_20 : decode cX9_parcelAt 20 = .ok (.l2i, 1) := by decide +kernel
theorem dX9_parcelAt_21 : decode cX9_parcelAt 21 = .ok (.ireturn, 1) := by decide +kernel
set_option maxRecDepth 20000 in
theorem ggX9_take_X9_parcelAt : GoodIn wsX9_take wsX9_parcelAt := goodIn_r _ [12, 13, 14, 15, 19, 20, 21, 22, 23, 24, 25, 26, 27, 28, 29, 30, 31, 32, 33, 34, 35, 36, 37, 38, 39, 40, 41, 42] (by decide +kernel) (by decide +kernel)
set_option maxRecDepth 20000 in
theorem gX9_take_X9_parcelAt : GoodIn wsX9_take (wsV RX9 79 RX9 yX9_parcelAt wsX9_parcelAt) := goodIn_app (goodIn_of _ (by decide +kernel)) ggX9_take_X9_parcelAt
set_option maxRecDepth 20000 in
theorem ggX9_take_X9_hasNumber : GoodIn wsX9_take wsX9_hasNumber := goodIn_r _ [18] (by decide +kernel) (by decide +kernel)
set_option maxRecDepth 20000 in
theorem gX9_take_X9_hasNumber : GoodIn wsX9_take (va_wsS RX9 89 yX9_hasNumber wsX9_hasNumber) := goodIn_app (goodIn_of _ (by decide +kernel)) ggX9_take_X9_hasNumber
theorem dX9_take_0 : decode cX9_take 0 = .ok (.aload_n 0, 1) := by decide +kernel
theorem dX9_take_1 : decode cX9_take 1 = .ok (.aload_n 0, 1) := by decide +kernel
theorem dX9_take_2 : decode cX9_take 2 = .ok (.getfield 53, 3) := by decide +kernel
theorem dX9_take_5 : decode cX9_take 5 = .ok (.invokevirtual 79, 3) := by decide +kernel
theorem dX9_take_8 : decode cX9_take 8 = .ok (.istore_n 1, 1) := by decide +kernel
theorem dX9_take_9 : decode cX9_take 9 = .ok (.aload_n 0, 1) := by decide +kernel
theorem dX9_take_10 : decode cX9_take 10 = .ok (.iload_n 1, 1) := by decide +kernel
theorem dX9_take_11 : decode cX9_take 11 = .ok (.bipush 9, 2) := by decide +kernel
theorem dX9_take_13 : decode cX9_take 13 = .ok (.ishr, 1) := by decide +kernel
theorem dX9_take_14 : decode cX9_take 14 = .ok (.putfield 68, 3) := by decide +kernel
theorem dX9_take_17 : decode cX9_take 17 = .ok (.aload_n 0, 1) := by decide +kernel
theorem dX9_take_18 : decode cX9_take 18 = .ok (.iload_n 1, 1) := by decide +kernel
theorem dX9_take_19 : decode cX9_take 19 = .ok (.bipush 6, 2) := by decide +kernel
theorem dX9_take_21 : decode cX9_take 21 = .ok (.ishr, 1) := by decide +kernel
theorem dX9_take_22 : decode cX9_take 22 = .ok (.bipush 7, 2) := by decide +kernel
theorem dX9_take_24 : decode cX9_take 24 = .ok (.iand, 1) := by decide +kernel
theorem dX9_take_25 : decode cX9_take 25 = .ok (.putfield 71, 3) := by decide +kernel
theorem dX9_take_28 : decode cX9_take 28 = .ok (.aload_n 0, 1) := by decide +kernel
theorem dX9_take_29 : decode cX9_take 29 = .ok (.iload_n 1, 1) := by decide +kernel
theorem dX9_take_30 : decode cX9_take 30 = .ok (.iconst 3, 1) := by decide +kernel
theorem dX9_take_31 : decode cX9_take 31 = .ok (.ishr, 1) := by decide +kernel
theorem dX9_take_32 : decode cX9_take 32 = .ok (.bipush 7, 2) := by decide +kernel
theorem dX9_take_34 : decode cX9_take 34 = .ok (.iand, 1) := by decide +kernel
theorem dX9_take_35 : decode cX9_take 35 = .ok (.putfield 83, 3) := by decide +kernel
theorem dX9_take_38 : decode cX9_take 38 = .ok (.aload_n 0, 1) := by decide +kernel
theorem dX9_take_39 : decode cX9_take 39 = .ok (.iload_n 1, 1) := by decide +kernel
theorem dX9_take_40 : decode cX9_take 40 = .ok (.bipush 7, 2) := by decide +kernel
theorem dX9_take_42 : decode cX9_take 42 = .ok (.iand, 1) := by decide +kernel
theorem dX9_take_43 : decode cX9_take 43 = .ok (.putfield 86, 3) := by decide +kernel
theorem dX9_take_46 : decode cX9_take 46 = .ok (.aload_n 0, 1) := by decide +kernel
theorem dX9_take_47 : decode cX9_take 47 = .ok (.aload_n 0, 1) := by decide +kernel
theorem dX9_take_48 : decode cX9_take 48 = .ok (.getfield 68, 3) := by decide +kernel
theorem dX9_take_51 : decode cX9_take 51 = .ok (.invokestatic 89, 3) := by decide +kernel
theorem dX9_take_54 : decode cX9_take 54 = .ok (.ifCond .eq 7, 3) := by decide +kernel
theorem dX9_take_57 : decode cX9_take 57 = .ok (.iconst 2, 1) := by decide +kernel
theorem dX9_take_58 : decode cX9_take 58 = .ok (.goto 4, 3) := by decide +kernel
theorem dX9_take_61 : decode cX9_take 61 = .ok (.iconst 1, 1) := by decide +kernel
theorem dX9_take_62 : decode cX9_take 62 = .ok (.putfield 74, 3) := by decide +kernel
theorem dX9_take_65 : decode cX9_take 65 = .ok (.aload_n 0, 1) := by decide +kernel
theorem dX9_take_66 : decode cX9_take 66 = .ok (.aload_n 0, 1) := by decide +kernel
theorem dX9_take_67 : decode cX9_take 67 = .ok (.getfield 74, 3) := by decide +kernel
theorem dX9_take_70 : decode cX9_take 70 = .ok (.iconst 2, 1) := by decide +kernel
theorem dX9_take_71 : decode cX9_take 71 = .ok (.if_icmp .ne 32, 3) := by decide +kernel
theorem dX9_take_74 : decode cX9_take 74 = .ok (.aload_n 0, 1) := by decide +kernel
theorem dX9_take_75 : decode cX9_take 75 = .ok (.getfield 53, 3) := by decide +kernel
theorem dX9_take_78 : decode cX9_take 78 = .ok (.iconst 3, 1) := by decide +kernel
theorem dX9_take_79 : decode cX9_take 79 = .ok (.if_icmp .ge 24, 3) := by decide +kernel
theorem dX9_take_82 : decode cX9_take 82 = .ok (.aload_n 0, 1) := by decide +kernel
theorem dX9_take_83 : decode cX9_take 83 = .ok (.getfield 86, 3) := by decide +kernel
theorem dX9_take_86 : decode cX9_take 86 = .ok (.bipush 15, 2) := by decide +kernel
theorem dX9_take_88 : decode cX9_take 88 = .ok (.ishl, 1) := by decide +kernel
theorem dX9_take_89 : decode cX9_take 89 = .ok (.aload_n 0, 1) := by decide +kernel
theorem dX9_take_90 : decode cX9_take 90 = .ok (.aload_n 0, 1) := by decide +kernel
theorem dX9_take_91 : decode cX9_take 91 = .ok (.getfield 53, 3) := by decide +kernel
theorem dX9_take_94 : decode cX9_take 94 = .ok (.iconst 1, 1) := by decide +kernel
theorem dX9_take_95 : decode cX9_take 95 = .ok (.iadd, 1) := by decide +kernel
theorem dX9_take_96 : decode cX9_take 96 = .ok (.invokevirtual 79, 3) := by decide +kernel
theorem dX9_take_99 : decode cX9_take 99 = .ok (.ior, 1) := by decide +kernel
theorem dX9_take_100 : decode cX9_take 100 = .ok (.goto 4, 3) := by decide +kernel
theorem dX9_take_103 : decode cX9_take 103 = .ok (.iconst 0, 1) := by decide +kernel
theorem dX9_take_104 : decode cX9_take 104 = .ok (.putfield 93, 3) := by decide +kernel
theorem dX9_take_107 : decode cX9_take 107 = .ok (.return_, 1) := by decide +kernel
theorem dX9_need_0 : decode cX9_need 0 = .ok (.aload_n 0, 1) := by decide +kernel
theorem dX9_need_1 : decode cX9_need 1 = .ok (.iload_n 1, 1) := by decide +kernel
theorem dX9_need_2 : decode cX9_need 2 = .ok (.bipush 16, 2) := by decide +kernel
theorem dX9_need_4 : decode cX9_need 4 = .ok (.if_icmp .ne 10, 3) := by decide +kernel
theorem dX9_need_7 : decode cX9_need 7 = .ok (.aload_n 0, 1) := by decide +kernel
theorem dX9_need_8 : decode cX9_need 8 = .ok (.getfield 96, 3) := by decide +kernel
theorem dX9_need_11 : decode cX9_need 11 = .ok (.goto 11, 3) := by decide +kernel
theorem dX9_need_14 : decode cX9_need 14 = .ok (.aload_n 0, 1) := by decide +kernel
theorem dX9_need_15 : decode cX9_need 15 = .ok (.getfield 96, 3) := by decide +kernel
theorem dX9_need_18 : decode cX9_need 18 = .ok (.iconst 1, 1) := by decide +kernel
theorem dX9_need_19 : decode cX9_need 19 = .ok (.iload_n 1, 1) := by decide +kernel
theorem dX9_need_20 : decode cX9_need 20 = .ok (.ishl, 1) := by decide +kernel
theorem dX9_need_21 : decode cX9_need 21 = .ok (.ior, 1) := by decide +kernel
theorem dX9_need_22 : decode cX9_need 22 = .ok (.putfield 96, 3) := by decide +kernel
theorem dX9_need_25 : decode cX9_need 25 = .ok (.return_, 1) := by decide +kernel
theorem dX9_give_0 : decode cX9_give 0 = .ok (.aload_n 0, 1) := by decide +kernel
theorem dX9_give_1 : decode cX9_give 1 = .ok (.iload_n 1, 1) := by decide +kernel
theorem dX9_give_2 : decode cX9_give 2 = .ok (.bipush 16, 2) := by decide +kernel
theorem dX9_give_4 : decode cX9_give 4 = .ok (.if_icmp .ne 10, 3) := by decide +kernel
theorem dX9_give_7 : decode cX9_give 7 = .ok (.aload_n 0, 1) := by decide +kernel
theorem dX9_give_8 : decode cX9_give 8 = .ok (.getfield 99, 3) := by decide +kernel
theorem dX9_give_11 : decode cX9_give 11 = .ok (.goto 11, 3) := by decide +kernel
theorem dX9_give_14 : decode cX9_give 14 = .ok (.aload_n 0, 1) := by decide +kernel
theorem dX9_give_15 : decode cX9_give 15 = .ok (.getfield 99, 3) := by decide +kernel
theorem dX9_give_18 : decode cX9_give 18 = .ok (.iconst 1, 1) := by decide +kernel
theorem dX9_give_19 : decode cX9_give 19 = .ok (.iload_n 1, 1) := by decide +kernel
theorem dX9_give_20 : decode cX9_give 20 = .ok (.ishl, 1) := by decide +kernel
theorem dX9_give_21 : decode cX9_give 21 = .ok (.ior, 1) := by decide +kernel
theorem dX9_give_22 : decode cX9_give 22 = .ok (.putfield 99, 3) := by decide +kernel
theorem dX9_give_25 : decode cX9_give 25 = .ok (.return_, 1) := by decide +kernel
theorem dX9_isMemory_0 : decode cX9_isMemory 0 = .ok (.aload_n 0, 1) := by decide +kernel
theorem dX9_isMemory_1 : decode cX9_isMemory 1 = .ok (.getfield 68, 3) := by decide +kernel
theorem dX9_isMemory_4 : decode cX9_isMemory 4 = .ok (.bipush 40, 2) := by decide +kernel
theorem dX9_isMemory_6 : decode cX9_isMemory 6 = .ok (.if_icmp .lt 23, 3) := by decide +kernel
theorem dX9_isMemory_9 : decode cX9_isMemory 9 = .ok (.aload_n 0, 1) := by decide +kernel
theorem dX9_isMemory_10 : decode cX9_isMemory 10 = .ok (.getfield 68, 3) := by decide +kernel
theorem dX9_isMemory_13 : decode cX9_isMemory 13 = .ok (.bipush 48, 2) := by decide +kernel
theorem dX9_isMemory_15 : decode cX9_isMemory 15 = .ok (.if_icmp .ge 14, 3) := by decide +kernel
theorem dX9_isMemory_18 : decode cX9_isMemory 18 = .ok (.aload_n 0, 1) := by decide +kernel
theorem dX9_isMemory_19 : decode cX9_isMemory 19 = .ok (.getfield 71, 3) := by decide +kernel
theorem dX9_isMemory_22 : decode cX9_isMemory 22 = .ok (.ifCond .le 7, 3) := by decide +kernel
theorem dX9_isMemory_25 : decode cX9_isMemory 25 = .ok (.iconst 1, 1) := by decide +kernel
theorem dX9_isMemory_26 : decode cX9_isMemory 26 = .ok (.goto 4, 3) := by decide +kernel
theorem dX9_isMemory_29 : decode cX9_isMemory 29 = .ok (.iconst 0, 1) := by decide +kernel
theorem dX9_isMemory_30 : decode cX9_isMemory 30 = .ok (.ireturn, 1) := by decide +kernel
set_option maxRecDepth 20000 in
theorem ggX9_find_X9_need : GoodIn wsX9_find wsX9_need := goodIn_r _ [11, 1, 20, 21, 22, 23, 24, 25, 26, 27, 28, 29, 30, 31, 32, 33, 34, 35, 36, 37, 38, 39, 40, 41, 42, 43] (by decide +kernel) (by decide +kernel)
set_option maxRecDepth 20000 in
theorem gX9_find_X9_need : GoodIn wsX9_find (wsV RX9 102 RX9 yX9_need wsX9_need) := goodIn_app (goodIn_of _ (by decide +kernel)) ggX9_find_X9_need
set_option maxRecDepth 20000 in
theorem ggX9_find_X9_give : GoodIn wsX9_find wsX9_give := goodIn_r _ [15, 2, 20, 21, 22, 23, 24, 25, 26, 27, 28, 29, 30, 31, 32, 33, 34, 35, 36, 37, 38, 39, 40, 41, 42, 43] (by decide +kernel) (by decide +kernel)
set_option maxRecDepth 20000 in
theorem gX9_find_X9_give : GoodIn wsX9_find (wsV RX9 106 RX9 yX9_give wsX9_give) := goodIn_app (goodIn_of _ (by decide +kernel)) ggX9_find_X9_give
set_option maxRecDepth 20000 in
theorem ggX9_find_X9_isMemory : GoodIn wsX9_find wsX9_isMemory := goodIn_r _ [19, 3, 6, 20, 21, 22, 23, 24, 25, 26, 27, 28, 29, 30, 31, 32, 33, 34, 35, 36, 37, 38, 39, 40, 41, 42, 43] (by decide +kernel) (by decide +kernel)
set_option maxRecDepth 20000 in
theorem gX9_find_X9_isMemory : GoodIn wsX9_find (wsV RX9 109 RX9 yX9_isMemory wsX9_isMemory) := goodIn_app (goodIn_of _ (by decide +kernel)) ggX9_find_X9_isMemory
theorem dX9_find_0 : decode cX9_find 0 = .ok (.aload_n 0, 1) := by decide +kernel
theorem dX9_find_1 : decode cX9_find 1 = .ok (.iconst 0, 1) := by decide +kernel
theorem dX9_find_2 : decode cX9_find 2 = .ok (.putfield 96, 3) := by decide +kernel
theorem dX9_find_5 : decode cX9_find 5 = .ok (.aload_n 0, 1) := by decide +kernel
theorem dX9_find_6 : decode cX9_find 6 = .ok (.iconst 0, 1) := by decide +kernel
theorem dX9_find_7 : decode cX9_find 7 = .ok (.putfield 99, 3) := by decide +kernel
theorem dX9_find_10 : decode cX9_find 10 = .ok (.aload_n 0, 1) := by decide +kernel
theorem dX9_find_11 : decode cX9_find 11 = .ok (.getfield 68, 3) := by decide +kernel
theorem dX9_find_14 : decode cX9_find 14 = .ok (.bipush 40, 2) := by decide +kernel
theorem dX9_find_16 : decode cX9_find 16 = .ok (.if_icmp .lt 181, 3) := by decide +kernel
theorem dX9_find_19 : decode cX9_find 19 = .ok (.aload_n 0, 1) := by decide +kernel
theorem dX9_find_20 : decode cX9_find 20 = .ok (.getfield 68, 3) := by decide +kernel
theorem dX9_find_23 : decode cX9_find 23 = .ok (.bipush 8, 2) := by decide +kernel
theorem dX9_find_25 : decode cX9_find 25 = .ok (.irem, 1) := by decide +kernel
theorem dX9_find_26 : decode cX9_find 26 = .ok (.istore_n 1, 1) := by decide +kernel
theorem dX9_find_27 : decode cX9_find 27 = .ok (.iload_n 1, 1) := by decide +kernel
theorem dX9_find_28 : decode cX9_find 28 = .ok (.ifCond .eq 13, 3) := by decide +kernel
theorem dX9_find_31 : decode cX9_find 31 = .ok (.iload_n 1, 1) := by decide +kernel
theorem dX9_find_32 : decode cX9_find 32 = .ok (.iconst 4, 1) := by decide +kernel
theorem dX9_find_33 : decode cX9_find 33 = .ok (.if_icmp .eq 8, 3) := by decide +kernel
theorem dX9_find_36 : decode cX9_find 36 = .ok (.iload_n 1, 1) := by decide +kernel
theorem dX9_find_37 : decode cX9_find 37 = .ok (.iconst 5, 1) := by decide +kernel
theorem dX9_find_38 : decode cX9_find 38 = .ok (.if_icmp .ne 17, 3) := by decide +kernel
theorem dX9_find_41 : decode cX9_find 41 = .ok (.aload_n 0, 1) := by decide +kernel
theorem dX9_find_42 : decode cX9_find 42 = .ok (.bipush 8, 2) := by decide +kernel
theorem dX9_find_44 : decode cX9_find 44 = .ok (.aload_n 0, 1) := by decide +kernel
theorem dX9_find_45 : decode cX9_find 45 = .ok (.getfield 83, 3) := by decide +kernel
theorem dX9_find_48 : decode cX9_find 48 = .ok (.iadd, 1) := by decide +kernel
theorem dX9_find_49 : decode cX9_find 49 = .ok (.invokevirtual 102, 3) := by decide +kernel
theorem dX9_find_52 : decode cX9_find 52 = .ok (.goto 35, 3) := by decide +kernel
theorem dX9_find_55 : decode cX9_find 55 = .ok (.iload_n 1, 1) := by decide +kernel
theorem dX9_find_56 : decode cX9_find 56 = .ok (.iconst 2, 1) := by decide +kernel
theorem dX9_find_57 : decode cX9_find 57 = .ok (.if_icmp .eq 8, 3) := by decide +kernel
theorem dX9_find_60 : decode cX9_find 60 = .ok (.iload_n 1, 1) := by decide +kernel
theorem dX9_find_61 : decode cX9_find 61 = .ok (.iconst 3, 1) := by decide +kernel
theorem dX9_find_62 : decode cX9_find 62 = .ok (.if_icmp .ne 14, 3) := by decide +kernel
theorem dX9_find_65 : decode cX9_find 65 = .ok (.aload_n 0, 1) := by decide +kernel
theorem dX9_find_66 : decode cX9_find 66 = .ok (.aload_n 0, 1) := by decide +kernel
theorem dX9_find_67 : decode cX9_find 67 = .ok (.getfield 83, 3) := by decide +kernel
theorem dX9_find_70 : decode cX9_find 70 = .ok (.invokevirtual 102, 3) := by decide +kernel
theorem dX9_find_73 : decode cX9_find 73 = .ok (.goto 14, 3) := by decide +kernel
theorem dX9_find_76 : decode cX9_find 76 = .ok (.aload_n 0, 1) := by decide +kernel
theorem dX9_find_77 : decode cX9_find 77 = .ok (.bipush 16, 2) := by decide +kernel
theorem dX9_find_79 : decode cX9_find 79 = .ok (.aload_n 0, 1) := by decide +kernel
theorem dX9_find_80 : decode cX9_find 80 = .ok (.getfield 83, 3) := by decide +kernel
theorem dX9_find_83 : decode cX9_find 83 = .ok (.iadd, 1) := by decide +kernel
theorem dX9_find_84 : decode cX9_find 84 = .ok (.invokevirtual 102, 3) := by decide +kernel
theorem dX9_find_87 : decode cX9_find 87 = .ok (.iload_n 1, 1) := by decide +kernel
theorem dX9_find_88 : decode cX9_find 88 = .ok (.iconst 2, 1) := by decide +kernel
theorem dX9_find_89 : decode cX9_find 89 = .ok (.if_icmp .le 14, 3) := by decide +kernel
theorem dX9_find_92 : decode cX9_find 92 = .ok (.aload_n 0, 1) := by decide +kernel
theorem dX9_find_93 : decode cX9_find 93 = .ok (.bipush 16, 2) := by decide +kernel
theorem dX9_find_95 : decode cX9_find 95 = .ok (.aload_n 0, 1) := by decide +kernel
theorem dX9_find_96 : decode cX9_find 96 = .ok (.getfield 86, 3) := by decide +kernel
theorem dX9_find_99 : decode cX9_find 99 = .ok (.iadd, 1) := by decide +kernel
theorem dX9_find_100 : decode cX9_find 100 = .ok (.invokevirtual 102, 3) := by decide +kernel
theorem dX9_find_103 : decode cX9_find 103 = .ok (.aload_n 0, 1) := by decide +kernel
theorem dX9_find_104 : decode cX9_find 104 = .ok (.aload_n 0, 1) := by decide +kernel
theorem dX9_find_105 : decode cX9_find 105 = .ok (.getfield 68, 3) := by decide +kernel
theorem dX9_find_108 : decode cX9_find 108 = .ok (.bipush 48, 2) := by decide +kernel
theorem dX9_find_110 : decode cX9_find 110 = .ok (.if_icmp .ge 13, 3) := by decide +kernel
theorem dX9_find_113 : decode cX9_find 113 = .ok (.bipush 8, 2) := by decide +kernel
theorem dX9_find_115 : decode cX9_find 115 = .ok (.aload_n 0, 1) := by decide +kernel
theorem dX9_find_116 : decode cX9_find 116 = .ok (.getfield 71, 3) := by decide +kernel
theorem dX9_find_119 : decode cX9_find 119 = .ok (.iadd, 1) := by decide +kernel
theorem dX9_find_120 : decode cX9_find 120 = .ok (.goto 26, 3) := by decide +kernel
theorem dX9_find_123 : decode cX9_find 123 = .ok (.aload_n 0, 1) := by decide +kernel
theorem dX9_find_124 : decode cX9_find 124 = .ok (.getfield 68, 3) := by decide +kernel
theorem dX9_find_127 : decode cX9_find 127 = .ok (.bipush 56, 2) := by decide +kernel
theorem dX9_find_129 : decode cX9_find 129 = .ok (.if_icmp .ge 13, 3) := by decide +kernel
theorem dX9_find_132 : decode cX9_find 132 = .ok (.bipush 16, 2) := by decide +kernel
theorem dX9_find_134 : decode cX9_find 134 = .ok (.aload_n 0, 1) := by decide +kernel
theorem dX9_find_135 : decode cX9_find 135 = .ok (.getfield 71, 3) := by decide +kernel
theorem dX9_find_138 : decode cX9_find 138 = .ok (.iadd, 1) := by decide +kernel
theorem dX9_find_139 : decode cX9_find 139 = .ok (.goto 7, 3) := by decide +kernel
theorem dX9_find_142 : decode cX9_find 142 = .ok (.aload_n 0, 1) := by decide +kernel
theorem dX9_find_143 : decode cX9_find 143 = .ok (.getfield 71, 3) := by decide +kernel
theorem dX9_find_146 : decode cX9_find 146 = .ok (.invokevirtual 106, 3) := by decide +kernel
theorem dX9_find_149 : decode cX9_find 149 = .ok (.aload_n 0, 1) := by decide +kernel
theorem dX9_find_150 : decode cX9_find 150 = .ok (.invokevirtual 109, 3) := by decide +kernel
theorem dX9_find_153 : decode cX9_find 153 = .ok (.ifCond .eq 20, 3) := by decide +kernel
theorem dX9_find_156 : decode cX9_find 156 = .ok (.aload_n 0, 1) := by decide +kernel
theorem dX9_find_157 : decode cX9_find 157 = .ok (.getfield 71, 3) := by decide +kernel
theorem dX9_find_160 : decode cX9_find 160 = .ok (.bipush 6, 2) := by decide +kernel
theorem dX9_find_162 : decode cX9_find 162 = .ok (.if_icmp .ge 11, 3) := by decide +kernel
theorem dX9_find_165 : decode cX9_find 165 = .ok (.aload_n 0, 1) := by decide +kernel
theorem dX9_find_166 : decode cX9_find 166 = .ok (.aload_n 0, 1) := by decide +kernel
theorem dX9_find_167 : decode cX9_find 167 = .ok (.getfield 71, 3) := by decide +kernel
theorem dX9_find_170 : decode cX9_find 170 = .ok (.invokevirtual 106, 3) := by decide +kernel
theorem dX9_find_173 : decode cX9_find 173 = .ok (.aload_n 0, 1) := by decide +kernel
theorem dX9_find_174 : decode cX9_find 174 = .ok (.invokevirtual 109, 3) := by decide +kernel
theorem dX9_find_177 : decode cX9_find 177 = .ok (.ifCond .eq 19, 3) := by decide +kernel
theorem dX9_find_180 : decode cX9_find 180 = .ok (.aload_n 0, 1) := by decide +kernel
theorem dX9_find_181 : decode cX9_find 181 = .ok (.getfield 71, 3) := by decide +kernel
theorem dX9_find_184 : decode cX9_find 184 = .ok (.iconst 5, 1) := by decide +kernel
theorem dX9_find_185 : decode cX9_find 185 = .ok (.if_icmp .le 11, 3) := by decide +kernel
theorem dX9_find_188 : decode cX9_find 188 = .ok (.aload_n 0, 1) := by decide +kernel
theorem dX9_find_189 : decode cX9_find 189 = .ok (.aload_n 0, 1) := by decide +kernel
theorem dX9_find_190 : decode cX9_find 190 = .ok (.getfield 71, 3) := by decide +kernel
theorem dX9_find_193 : decode cX9_find 193 = .ok (.invokevirtual 102, 3) := by decide +kernel
theorem dX9_find_196 : decode cX9_find 196 = .ok (.return_, 1) := by decide +kernel
theorem dX9_find_197 : decode cX9_find 197 = .ok (.aload_n 0, 1) := by decide +kernel
theorem dX9_find_198 : decode cX9_find 198 = .ok (.aload_n 0, 1) := by decide +kernel
theorem dX9_find_199 : decode cX9_find 199 = .ok (.getfield 71, 3) := by decide +kernel
theorem dX9_find_202 : decode cX9_find 202 = .ok (.invokevirtual 106, 3) := by decide +kernel
theorem dX9_find_205 : decode cX9_find 205 = .ok (.aload_n 0, 1) := by decide +kernel
theorem dX9_find_206 : decode cX9_find 206 = .ok (.getfield 68, 3) := by decide +kernel
theorem dX9_find_209 : decode cX9_find 209 = .ok (.bipush 8, 2) := by decide +kernel
theorem dX9_find_211 : decode cX9_find 211 = .ok (.if_icmp .eq 57, 3) := by decide +kernel
theorem dX9_find_214 : decode cX9_find 214 = .ok (.aload_n 0, 1) := by decide +kernel
theorem dX9_find_215 : decode cX9_find 215 = .ok (.getfield 68, 3) := by decide +kernel
theorem dX9_find_218 : decode cX9_find 218 = .ok (.bipush 9, 2) := by decide +kernel
theorem dX9_find_220 : decode cX9_find 220 = .ok (.if_icmp .lt 12, 3) := by decide +kernel
theorem dX9_find_223 : decode cX9_find 223 = .ok (.aload_n 0, 1) := by decide +kernel
theorem dX9_find_224 : decode cX9_find 224 = .ok (.getfield 68, 3) := by decide +kernel
theorem dX9_find_227 : decode cX9_find 227 = .ok (.bipush 11, 2) := by decide +kernel
theorem dX9_find_229 : decode cX9_find 229 = .ok (.if_icmp .le 39, 3) := by decide +kernel
theorem dX9_find_232 : decode cX9_find 232 = .ok (.aload_n 0, 1) := by decide +kernel
theorem dX9_find_233 : decode cX9_find 233 = .ok (.getfield 68, 3) := by decide +kernel
theorem dX9_find_236 : decode cX9_find 236 = .ok (.bipush 13, 2) := by decide +kernel
theorem dX9_find_238 : decode cX9_find 238 = .ok (.if_icmp .lt 12, 3) := by decide +kernel
theorem dX9_find_241 : decode cX9_find 241 = .ok (.aload_n 0, 1) := by decide +kernel
theorem dX9_find_242 : decode cX9_find 242 = .ok (.getfield 68, 3) := by decide +kernel
theorem dX9_find_245 : decode cX9_find 245 = .ok (.bipush 15, 2) := by decide +kernel
theorem dX9_find_247 : decode cX9_find 247 = .ok (.if_icmp .le 21, 3) := by decide +kernel
theorem dX9_find_250 : decode cX9_find 250 = .ok (.aload_n 0, 1) := by decide +kernel
theorem dX9_find_251 : decode cX9_find 251 = .ok (.getfield 68, 3) := by decide +kernel
theorem dX9_find_254 : decode cX9_find 254 = .ok (.bipush 30, 2) := by decide +kernel
theorem dX9_find_256 : decode cX9_find 256 = .ok (.if_icmp .eq 12, 3) := by decide +kernel
theorem dX9_find_259 : decode cX9_find 259 = .ok (.aload_n 0, 1) := by decide +kernel
theorem dX9_find_260 : decode cX9_find 260 = .ok (.getfield 68, 3) := by decide +kernel
theorem dX9_find_263 : decode cX9_find 263 = .ok (.bipush 31, 2) := by decide +kernel
theorem dX9_find_265 : decode cX9_find 265 = .ok (.if_icmp .ne 7, 3) := by decide +kernel
theorem dX9_find_268 : decode cX9_find 268 = .ok (.iconst 1, 1) := by decide +kernel
theorem dX9_find_269 : decode cX9_find 269 = .ok (.goto 4, 3) := by decide +kernel
theorem dX9_find_272 : decode cX9_find 272 = .ok (.iconst 0, 1) := by decide +kernel
theorem dX9_find_273 : decode cX9_find 273 = .ok (.istore_n 1, 1) := by decide +kernel
theorem dX9_find_274 : decode cX9_find 274 = .ok (.aload_n 0, 1) := by decide +kernel
theorem dX9_find_275 : decode cX9_find 275 = .ok (.getfield 68, 3) := by decide +kernel
theorem dX9_find_278 : decode cX9_find 278 = .ok (.bipush 9, 2) := by decide +kernel
theorem dX9_find_280 : decode cX9_find 280 = .ok (.if_icmp .lt 12, 3) := by decide +kernel
theorem dX9_find_283 : decode cX9_find 283 = .ok (.aload_n 0, 1) := by decide +kernel
theorem dX9_find_284 : decode cX9_find 284 = .ok (.getfield 68, 3) := by decide +kernel
theorem dX9_find_287 : decode cX9_find 287 = .ok (.bipush 15, 2) := by decide +kernel
theorem dX9_find_289 : decode cX9_find 289 = .ok (.if_icmp .le 48, 3) := by decide +kernel
theorem dX9_find_292 : decode cX9_find 292 = .ok (.aload_n 0, 1) := by decide +kernel
theorem dX9_find_293 : decode cX9_find 293 = .ok (.getfield 68, 3) := by decide +kernel
theorem dX9_find_296 : decode cX9_find 296 = .ok (.bipush 18, 2) := by decide +kernel
theorem dX9_find_298 : decode cX9_find 298 = .ok (.if_icmp .eq 39, 3) := by decide +kernel
theorem dX9_find_301 : decode cX9_find 301 = .ok (.aload_n 0, 1) := by decide +kernel
theorem dX9_find_302 : decode cX9_find 302 = .ok (.getfield 68, 3) := by decide +kernel
theorem dX9_find_305 : decode cX9_find 305 = .ok (.bipush 19, 2) := by decide +kernel
theorem dX9_find_307 : decode cX9_find 307 = .ok (.if_icmp .eq 30, 3) := by decide +kernel
theorem dX9_find_310 : decode cX9_find 310 = .ok (.aload_n 0, 1) := by decide +kernel
theorem dX9_find_311 : decode cX9_find 311 = .ok (.getfield 68, 3) := by decide +kernel
theorem dX9_find_314 : decode cX9_find 314 = .ok (.bipush 30, 2) := by decide +kernel
theorem dX9_find_316 : decode cX9_find 316 = .ok (.if_icmp .eq 21, 3) := by decide +kernel
theorem dX9_find_319 : decode cX9_find 319 = .ok (.aload_n 0, 1) := by decide +kernel
theorem dX9_find_320 : decode cX9_find 320 = .ok (.getfield 68, 3) := by decide +kernel
theorem dX9_find_323 : decode cX9_find 323 = .ok (.bipush 31, 2) := by decide +kernel
theorem dX9_find_325 : decode cX9_find 325 = .ok (.if_icmp .eq 12, 3) := by decide +kernel
theorem dX9_find_328 : decode cX9_find 328 = .ok (.aload_n 0, 1) := by decide +kernel
theorem dX9_find_329 : decode cX9_find 329 = .ok (.getfield 68, 3) := by decide +kernel
theorem dX9_find_332 : decode cX9_find 332 = .ok (.bipush 39, 2) := by decide +kernel
theorem dX9_find_334 : decode cX9_find 334 = .ok (.if_icmp .ne 7, 3) := by decide +kernel
theorem dX9_find_337 : decode cX9_find 337 = .ok (.iconst 1, 1) := by decide +kernel
theorem dX9_find_338 : decode cX9_find 338 = .ok (.goto 4, 3) := by decide +kernel
theorem dX9_find_341 : decode cX9_find 341 = .ok (.iconst 0, 1) := by decide +kernel
theorem dX9_find_342 : decode cX9_find 342 = .ok (.istore_n 2, 1) := by decide +kernel
theorem dX9_find_343 : decode cX9_find 343 = .ok (.iload_n 1, 1) := by decide +kernel
theorem dX9_find_344 : decode cX9_find 344 = .ok (.ifCond .eq 11, 3) := by decide +kernel
theorem dX9_find_347 : decode cX9_find 347 = .ok (.aload_n 0, 1) := by decide +kernel
theorem dX9_find_348 : decode cX9_find 348 = .ok (.aload_n 0, 1) := by decide +kernel
theorem dX9_find_349 : decode cX9_find 349 = .ok (.getfield 83, 3) := by decide +kernel
theorem dX9_find_352 : decode cX9_find 352 = .ok (.invokevirtual 102, 3) := by decide +kernel
theorem dX9_find_355 : decode cX9_find 355 = .ok (.iload_n 2, 1) := by decide +kernel
theorem dX9_find_356 : decode cX9_find 356 = .ok (.ifCond .eq 11, 3) := by decide +kernel
theorem dX9_find_359 : decode cX9_find 359 = .ok (.aload_n 0, 1) := by decide +kernel
theorem dX9_find_360 : decode cX9_find 360 = .ok (.aload_n 0, 1) := by decide +kernel
theorem dX9_find_361 : decode cX9_find 361 = .ok (.getfield 86, 3) := by decide +kernel
theorem dX9_find_364 : decode cX9_find 364 = .ok (.invokevirtual 102, 3) := by decide +kernel
theorem dX9_find_367 : decode cX9_find 367 = .ok (.aload_n 0, 1) := by decide +kernel
theorem dX9_find_368 : decode cX9_find 368 = .ok (.getfield 68, 3) := by decide +kernel
theorem dX9_find_371 : decode cX9_find 371 = .ok (.bipush 16, 2) := by decide +kernel
theorem dX9_find_373 : decode cX9_find 373 = .ok (.if_icmp .eq 12, 3) := by decide +kernel
theorem dX9_find_376 : decode cX9_find 376 = .ok (.aload_n 0, 1) := by decide +kernel
theorem dX9_find_377 : decode cX9_find 377 = .ok (.getfield 68, 3) := by decide +kernel
theorem dX9_find_380 : decode cX9_find 380 = .ok (.bipush 17, 2) := by decide +kernel
theorem dX9_find_382 : decode cX9_find 382 = .ok (.if_icmp .ne 11, 3) := by decide +kernel
theorem dX9_find_385 : decode cX9_find 385 = .ok (.aload_n 0, 1) := by decide +kernel
theorem dX9_find_386 : decode cX9_find 386 = .ok (.aload_n 0, 1) := by decide +kernel
theorem dX9_find_387 : decode cX9_find 387 = .ok (.getfield 71, 3) := by decide +kernel
theorem dX9_find_390 : decode cX9_find 390 = .ok (.invokevirtual 102, 3) := by decide +kernel
theorem dX9_find_393 : decode cX9_find 393 = .ok (.aload_n 0, 1) := by decide +kernel
theorem dX9_find_394 : decode cX9_find 394 = .ok (.getfield 68, 3) := by decide +kernel
theorem dX9_find_397 : decode cX9_find 397 = .ok (.bipush 18, 2) := by decide +kernel
theorem dX9_find_399 : decode cX9_find 399 = .ok (.if_icmp .eq 12, 3) := by decide +kernel
theorem dX9_find_402 : decode cX9_find 402 = .ok (.aload_n 0, 1) := by decide +kernel
theorem dX9_find_403 : decode cX9_find 403 = .ok (.getfield 68, 3) := by decide +kernel
theorem dX9_find_406 : decode cX9_find 406 = .ok (.bipush 19, 2) := by decide +kernel
theorem dX9_find_408 : decode cX9_find 408 = .ok (.if_icmp .ne 14, 3) := by decide +kernel
theorem dX9_find_411 : decode cX9_find 411 = .ok (.aload_n 0, 1) := by decide +kernel
theorem dX9_find_412 : decode cX9_find 412 = .ok (.bipush 16, 2) := by decide +kernel
theorem dX9_find_414 : decode cX9_find 414 = .ok (.aload_n 0, 1) := by decide +kernel
theorem dX9_find_415 : decode cX9_find 415 = .ok (.getfield 83, 3) := by decide +kernel
theorem dX9_find_418 : decode cX9_find 418 = .ok (.iadd, 1) := by decide +kernel
theorem dX9_find_419 : decode cX9_find 419 = .ok (.invokevirtual 102, 3) := by decide +kernel
theorem dX9_find_422 : decode cX9_find 422 = .ok (.return_, 1) := by decide +kernel
theorem dX9_mixed_0 : decode cX9_mixed 0 = .ok (.aload_n 0, 1) := by decide +kernel
theorem dX9_mixed_1 : decode cX9_mixed 1 = .ok (.getfield 16, 3) := by decide +kernel
theorem dX9_mixed_4 : decode cX9_mixed 4 = .ok (.aload_n 0, 1) := by decide +kernel
theorem dX9_mixed_5 : decode cX9_mixed 5 = .ok (.getfield 83, 3) := by decide +kernel
theorem dX9_mixed_8 : decode cX9_mixed 8 = .ok (.laload, 1) := by decide +kernel
theorem dX9_mixed_9 : decode cX9_mixed 9 = .ok (.lstore_n 1, 1) := by decide +kernel
theorem dX9_mixed_10 : decode cX9_mixed 10 = .ok (.aload_n 0, 1) := by decide +kernel
theorem dX9_mixed_11 : decode cX9_mixed 11 = .ok (.getfield 16, 3) := by decide +kernel
theorem dX9_mixed_14 : decode cX9_mixed 14 = .ok (.aload_n 0, 1) := by decide +kernel
theorem dX9_mixed_15 : decode cX9_mixed 15 = .ok (.getfield 86, 3) := by decide +kernel
theorem dX9_mixed_18 : decode cX9_mixed 18 = .ok (.laload, 1) := by decide +kernel
theorem dX9_mixed_19 : decode cX9_mixed 19 = .ok (.lstore_n 3, 1) := by decide +kernel
theorem dX9_mixed_20 : decode cX9_mixed 20 = .ok (.aload_n 0, 1) := by decide +kernel
theorem dX9_mixed_21 : decode cX9_mixed 21 = .ok (.getfield 68, 3) := by decide +kernel
theorem dX9_mixed_24 : decode cX9_mixed 24 = .ok (.tableswitch 80 8 14 #[44, 46, 50, 54, 58, 64, 72], 44) := by decide +kernel
theorem dX9_mixed_68 : decode cX9_mixed 68 = .ok (.lload_n 1, 1) := by decide +kernel
theorem dX9_mixed_69 : decode cX9_mixed 69 = .ok (.lreturn, 1) := by decide +kernel
theorem dX9_mixed_70 : decode cX9_mixed 70 = .ok (.lload_n 1, 1) := by decide +kernel
theorem dX9_mixed_71 : decode cX9_mixed 71 = .ok (.lload_n 3, 1) := by decide +kernel
theorem dX9_mixed_72 : decode cX9_mixed 72 = .ok (.land, 1) := by decide +kernel
theorem dX9_mixed_73 : decode cX9_mixed 73 = .ok (.lreturn, 1) := by decide +kernel
theorem dX9_mixed_74 : decode cX9_mixed 74 = .ok (.lload_n 1, 1) := by decide +kernel
theorem dX9_mixed_75 : decode cX9_mixed 75 = .ok (.lload_n 3, 1) := by decide +kernel
theorem dX9_mixed_76 : decode cX9_mixed 76 = .ok (.lor, 1) := by decide +kernel
theorem dX9_mixed_77 : decode cX9_mixed 77 = .ok (.lreturn, 1) := by decide +kernel
theorem dX9_mixed_78 : decode cX9_mixed 78 = .ok (.lload_n 1, 1) := by decide +kernel
theorem dX9_mixed_79 : decode cX9_mixed 79 = .ok (.lload_n 3, 1) := by decide +kernel
theorem dX9_mixed_80 : decode cX9_mixed 80 = .ok (.lxor, 1) := by decide +kernel
theorem dX9_mixed_81 : decode cX9_mixed 81 = .ok (.lreturn, 1) := by decide +kernel
theorem dX9_mixed_82 : decode cX9_mixed 82 = .ok (.ldc2_w 42, 3) := by decide +kernel
theorem dX9_mixed_85 : decode cX9_mixed 85 = .ok (.lload_n 3, 1) := by decide +kernel
theorem dX9_mixed_86 : decode cX9_mixed 86 = .ok (.lsub, 1) := by decide +kernel
theorem dX9_mixed_87 : decode cX9_mixed 87 = .ok (.lreturn, 1) := by decide +kernel
theorem dX9_mixed_88 : decode cX9_mixed 88 = .ok (.lload_n 1, 1) := by decide +kernel
theorem dX9_mixed_89 : decode cX9_mixed 89 = .ok (.ldc2_w 42, 3) := by decide +kernel
theorem dX9_mixed_92 : decode cX9_mixed 92 = .ok (.lload_n 3, 1) := by decide +kernel
theorem dX9_mixed_93 : decode cX9_mixed 93 = .ok (.lsub, 1) := by decide +kernel
theorem dX9_mixed_94 : decode cX9_mixed 94 = .ok (.land, 1) := by decide +kernel
theorem dX9_mixed_95 : decode cX9_mixed 95 = .ok (.lreturn, 1) := by decide +kernel
theorem dX9_mixed_96 : decode cX9_mixed 96 = .ok (.lload_n 1, 1) := by decide +kernel
theorem dX9_mixed_97 : decode cX9_mixed 97 = .ok (.ldc2_w 42, 3) := by decide +kernel
theorem dX9_mixed_100 : decode cX9_mixed 100 = .ok (.lload_n 3, 1) := by decide +kernel
theorem dX9_mixed_101 : decode cX9_mixed 101 = .ok (.lsub, 1) := by decide +kernel
theorem dX9_mixed_102 : decode cX9_mixed 102 = .ok (.lor, 1) := by decide +kernel
theorem dX9_mixed_103 : decode cX9_mixed 103 = .ok (.lreturn, 1) := by decide +kernel
theorem dX9_mixed_104 : decode cX9_mixed 104 = .ok (.lload_n 1, 1) := by decide +kernel
theorem dX9_mixed_105 : decode cX9_mixed 105 = .ok (.ldc2_w 42, 3) := by decide +kernel
theorem dX9_mixed_108 : decode cX9_mixed 108 = .ok (.lload_n 3, 1) := by decide +kernel
theorem dX9_mixed_109 : decode cX9_mixed 109 = .ok (.lsub, 1) := by decide +kernel
theorem dX9_mixed_110 : decode cX9_mixed 110 = .ok (.lxor, 1) := by decide +kernel
theorem dX9_mixed_111 : decode cX9_mixed 111 = .ok (.lreturn, 1) := by decide +kernel
set_option maxRecDepth 20000 in
theorem ggX9_shifted_X9_round : GoodIn wsX9_shifted wsX9_round := goodIn_r _ [11, 12] (by decide +kernel) (by decide +kernel)
set_option maxRecDepth 20000 in
theorem gX9_shifted_X9_round : GoodIn wsX9_shifted (va_wsS RX9 113 yX9_round wsX9_round) := goodIn_app (goodIn_of _ (by decide +kernel)) ggX9_shifted_X9_round
set_option maxRecDepth 20000 in
theorem ggX9_shifted_X9_right : GoodIn wsX9_shifted wsX9_right := goodIn_r _ [15, 16] (by decide +kernel) (by decide +kernel)
set_option maxRecDepth 20000 in
theorem gX9_shifted_X9_right : GoodIn wsX9_shifted (va_wsS RX9 117 yX9_right wsX9_right) := goodIn_app (goodIn_of _ (by decide +kernel)) ggX9_shifted_X9_right
theorem dX9_shifted_0 : decode cX9_shifted 0 = .ok (.bipush 8, 2) := by decide +kernel
theorem dX9_shifted_2 : decode cX9_shifted 2 = .ok (.aload_n 0, 1) := by decide +kernel
theorem dX9_shifted_3 : decode cX9_shifted 3 = .ok (.getfield 83, 3) := by decide +kernel
theorem dX9_shifted_6 : decode cX9_shifted 6 = .ok (.imul, 1) := by decide +kernel
theorem dX9_shifted_7 : decode cX9_shifted 7 = .ok (.aload_n 0, 1) := by decide +kernel
theorem dX9_shifted_8 : decode cX9_shifted 8 = .ok (.getfield 86, 3) := by decide +kernel
theorem dX9_shifted_11 : decode cX9_shifted 11 = .ok (.iadd, 1) := by decide +kernel
theorem dX9_shifted_12 : decode cX9_shifted 12 = .ok (.istore_n 1, 1) := by decide +kernel
theorem dX9_shifted_13 : decode cX9_shifted 13 = .ok (.aload_n 0, 1) := by decide +kernel
theorem dX9_shifted_14 : decode cX9_shifted 14 = .ok (.getfield 68, 3) := by decide +kernel
theorem dX9_shifted_17 : decode cX9_shifted 17 = .ok (.bipush 16, 2) := by decide +kernel
theorem dX9_shifted_19 : decode cX9_shifted 19 = .ok (.if_icmp .ne 17, 3) := by decide +kernel
theorem dX9_shifted_22 : decode cX9_shifted 22 = .ok (.aload_n 0, 1) := by decide +kernel
theorem dX9_shifted_23 : decode cX9_shifted 23 = .ok (.getfield 16, 3) := by decide +kernel
theorem dX9_shifted_26 : decode cX9_shifted 26 = .ok (.aload_n 0, 1) := by decide +kernel
theorem dX9_shifted_27 : decode cX9_shifted 27 = .ok (.getfield 71, 3) := by decide +kernel
theorem dX9_shifted_30 : decode cX9_shifted 30 = .ok (.laload, 1) := by decide +kernel
theorem dX9_shifted_31 : decode cX9_shifted 31 = .ok (.iload_n 1, 1) := by decide +kernel
theorem dX9_shifted_32 : decode cX9_shifted 32 = .ok (.invokestatic 113, 3) := by decide +kernel
theorem dX9_shifted_35 : decode cX9_shifted 35 = .ok (.lreturn, 1) := by decide +kernel
theorem dX9_shifted_36 : decode cX9_shifted 36 = .ok (.aload_n 0, 1) := by decide +kernel
theorem dX9_shifted_37 : decode cX9_shifted 37 = .ok (.getfield 68, 3) := by decide +kernel
theorem dX9_shifted_40 : decode cX9_shifted 40 = .ok (.bipush 17, 2) := by decide +kernel
theorem dX9_shifted_42 : decode cX9_shifted 42 = .ok (.if_icmp .ne 17, 3) := by decide +kernel
theorem dX9_shifted_45 : decode cX9_shifted 45 = .ok (.aload_n 0, 1) := by decide +kernel
theorem dX9_shifted_46 : decode cX9_shifted 46 = .ok (.getfield 16, 3) := by decide +kernel
theorem dX9_shifted_49 : decode cX9_shifted 49 = .ok (.aload_n 0, 1) := by decide +kernel
theorem dX9_shifted_50 : decode cX9_shifted 50 = .ok (.getfield 71, 3) := by decide +kernel
theorem dX9_shifted_53 : decode cX9_shifted 53 = .ok (.laload, 1) := by decide +kernel
theorem dX9_shifted_54 : decode cX9_shifted 54 = .ok (.iload_n 1, 1) := by decide +kernel
theorem dX9_shifted_55 : decode cX9_shifted 55 = .ok (.invokestatic 117, 3) := by decide +kernel
theorem dX9_shifted_58 : decode cX9_shifted 58 = .ok (.lreturn, 1) := by decide +kernel
theorem dX9_shifted_59 : decode cX9_shifted 59 = .ok (.aload_n 0, 1) := by decide +kernel
theorem dX9_shifted_60 : decode cX9_shifted 60 = .ok (.getfield 16, 3) := by decide +kernel
theorem dX9_shifted_63 : decode cX9_shifted 63 = .ok (.bipush 16, 2) := by decide +kernel
theorem dX9_shifted_65 : decode cX9_shifted 65 = .ok (.aload_n 0, 1) := by decide +kernel
theorem dX9_shifted_66 : decode cX9_shifted 66 = .ok (.getfield 83, 3) := by decide +kernel
theorem dX9_shifted_69 : decode cX9_shifted 69 = .ok (.iadd, 1) := by decide +kernel
theorem dX9_shifted_70 : decode cX9_shifted 70 = .ok (.laload, 1) := by decide +kernel
theorem dX9_shifted_71 : decode cX9_shifted 71 = .ok (.l2i, 1) := by decide +kernel
theorem dX9_shifted_72 : decode cX9_shifted 72 = .ok (.istore_n 2, 1) := by decide +kernel
theorem dX9_shifted_73 : decode cX9_shifted 73 = .ok (.iload_n 2, 1) := by decide +kernel
theorem dX9_shifted_74 : decode cX9_shifted 74 = .ok (.ldc 120, 2) := by decide +kernel
theorem dX9_shifted_76 : decode cX9_shifted 76 = .ok (.if_icmp .le 7, 3) := by decide +kernel
theorem dX9_shifted_79 : decode cX9_shifted 79 = .ok (.iconst 1, 1) := by decide +kernel
theorem dX9_shifted_80 : decode cX9_shifted 80 = .ok (.goto 4, 3) := by decide +kernel
theorem dX9_shifted_83 : decode cX9_shifted 83 = .ok (.iconst 0, 1) := by decide +kernel
theorem dX9_shifted_84 : decode cX9_shifted 84 = .ok (.istore_n 3, 1) := by decide +kernel
theorem dX9_shifted_85 : decode cX9_shifted 85 = .ok (.iload_n 3, 1) := by decide +kernel
theorem dX9_shifted_86 : decode cX9_shifted 86 = .ok (.ifCond .eq 13, 3) := by decide +kernel
theorem dX9_shifted_89 : decode cX9_shifted 89 = .ok (.ldc 121, 2) := by decide +kernel
theorem dX9_shifted_91 : decode cX9_shifted 91 = .ok (.iload_n 2, 1) := by decide +kernel
theorem dX9_shifted_92 : decode cX9_shifted 92 = .ok (.isub, 1) := by decide +kernel
theorem dX9_shifted_93 : decode cX9_shifted 93 = .ok (.bipush 63, 2) := by decide +kernel
theorem dX9_shifted_95 : decode cX9_shifted 95 = .ok (.iand, 1) := by decide +kernel
theorem dX9_shifted_96 : decode cX9_shifted 96 = .ok (.goto 7, 3) := by decide +kernel
theorem dX9_shifted_99 : decode cX9_shifted 99 = .ok (.iload_n 2, 1) := by decide +kernel
theorem dX9_shifted_100 : decode cX9_shifted 100 = .ok (.bipush 63, 2) := by decide +kernel
theorem dX9_shifted_102 : decode cX9_shifted 102 = .ok (.iand, 1) := by decide +kernel
theorem dX9_shifted_103 : decode cX9_shifted 103 = .ok (.istore 4, 2) := by decide +kernel
theorem dX9_shifted_105 : decode cX9_shifted 105 = .ok (.iload_n 3, 1) := by decide +kernel
theorem dX9_shifted_106 : decode cX9_shifted 106 = .ok (.aload_n 0, 1) := by decide +kernel
theorem dX9_shifted_107 : decode cX9_shifted 107 = .ok (.getfield 68, 3) := by decide +kernel
theorem dX9_shifted_110 : decode cX9_shifted 110 = .ok (.bipush 18, 2) := by decide +kernel
theorem dX9_shifted_112 : decode cX9_shifted 112 = .ok (.if_icmp .ne 7, 3) := by decide +kernel
theorem dX9_shifted_115 : decode cX9_shifted 115 = .ok (.iconst 1, 1) := by decide +kernel
theorem dX9_shifted_116 : decode cX9_shifted 116 = .ok (.goto 4, 3) := by decide +kernel
theorem dX9_shifted_119 : decode cX9_shifted 119 = .ok (.iconst 0, 1) := by decide +kernel
theorem dX9_shifted_120 : decode cX9_shifted 120 = .ok (.if_icmp .ne 20, 3) := by decide +kernel
theorem dX9_shifted_123 : decode cX9_shifted 123 = .ok (.aload_n 0, 1) := by decide +kernel
theorem dX9_shifted_124 : decode cX9_shifted 124 = .ok (.getfield 16, 3) := by decide +kernel
theorem dX9_shifted_127 : decode cX9_shifted 127 = .ok (.aload_n 0, 1) := by decide +kernel
theorem dX9_shifted_128 : decode cX9_shifted 128 = .ok (.getfield 86, 3) := by decide +kernel
theorem dX9_shifted_131 : decode cX9_shifted 131 = .ok (.laload, 1) := by decide +kernel
theorem dX9_shifted_132 : decode cX9_shifted 132 = .ok (.iload 4, 2) := by decide +kernel
theorem dX9_shifted_134 : decode cX9_shifted 134 = .ok (.invokestatic 117, 3) := by decide +kernel
theorem dX9_shifted_137 : decode cX9_shifted 137 = .ok (.goto 17, 3) := by decide +kernel
theorem dX9_shifted_140 : decode cX9_shifted 140 = .ok (.aload_n 0, 1) := by decide +kernel
theorem dX9_shifted_141 : decode cX9_shifted 141 = .ok (.getfield 16, 3) := by decide +kernel
theorem dX9_shifted_144 : decode cX9_shifted 144 = .ok (.aload_n 0, 1) := by decide +kernel
theorem dX9_shifted_145 : decode cX9_shifted 145 = .ok (.getfield 86, 3) := by decide +kernel
theorem dX9_shifted_148 : decode cX9_shifted 148 = .ok (.laload, 1) := by decide +kernel
theorem dX9_shifted_149 : decode cX9_shifted 149 = .ok (.iload 4, 2) := by decide +kernel
theorem dX9_shifted_151 : decode cX9_shifted 151 = .ok (.invokestatic 113, 3) := by decide +kernel
theorem dX9_shifted_154 : decode cX9_shifted 154 = .ok (.lreturn, 1) := by decide +kernel
set_option maxRecDepth 20000 in
theorem ggX9_reckoned_X9_mixed : GoodIn wsX9_reckoned wsX9_mixed := goodIn_r _ [10, 2, 3, 4, 1, 5, 31, 32, 33, 34, 35, 36, 37, 38, 39, 40, 41, 42, 43, 44, 45, 46, 47, 48, 49, 50, 51, 52, 53, 54] (by decide +kernel) (by decide +kernel)
set_option maxRecDepth 20000 in
theorem gX9_reckoned_X9_mixed : GoodIn wsX9_reckoned (wsV RX9 122 RX9 yX9_mixed wsX9_mixed) := goodIn_app (goodIn_of _ (by decide +kernel)) ggX9_reckoned_X9_mixed
set_option maxRecDepth 20000 in
theorem ggX9_reckoned_X9_shifted : GoodIn wsX9_reckoned wsX9_shifted := goodIn_r _ [14, 3, 4, 1, 2, 15, 16, 17, 18, 19, 9, 20, 5, 21, 22, 23, 24, 31, 32, 33, 34, 35, 36, 37, 38, 39, 40, 41, 42, 43, 44, 45, 46, 47, 48, 49, 50, 51, 52, 53, 54] (by decide +kernel) (by decide +kernel)
set_option maxRecDepth 20000 in
theorem gX9_reckoned_X9_shifted : GoodIn wsX9_reckoned (wsV RX9 126 RX9 yX9_shifted wsX9_shifted) := goodIn_app (goodIn_of _ (by decide +kernel)) ggX9_reckoned_X9_shifted
set_option maxRecDepth 20000 in
theorem ggX9_reckoned_X9_sum : GoodIn wsX9_reckoned wsX9_sum := goodIn_r _ [27] (by decide +kernel) (by decide +kernel)
set_option maxRecDepth 20000 in
theorem gX9_reckoned_X9_sum : GoodIn wsX9_reckoned (va_wsS RX9 56 yX9_sum wsX9_sum) := goodIn_app (goodIn_of _ (by decide +kernel)) ggX9_reckoned_X9_sum
set_option maxRecDepth 20000 in
theorem ggX9_reckoned_X9_less : GoodIn wsX9_reckoned wsX9_less := goodIn_r _ [30, 25, 26, 9, 27] (by decide +kernel) (by decide +kernel)
set_option maxRecDepth 20000 in
theorem gX9_reckoned_X9_less : GoodIn wsX9_reckoned (va_wsS RX9 129 yX9_less wsX9_less) := goodIn_app (goodIn_of _ (by decide +kernel)) ggX9_reckoned_X9_less
theorem dX9_reckoned_0 : decode cX9_reckoned 0 = .ok (.lconst 0, 1) := by decide +kernel
theorem dX9_reckoned_1 : decode cX9_reckoned 1 = .ok (.lstore_n 1, 1) := by decide +kernel
theorem dX9_reckoned_2 : decode cX9_reckoned 2 = .ok (.aload_n 0, 1) := by decide +kernel
theorem dX9_reckoned_3 : decode cX9_reckoned 3 = .ok (.getfield 68, 3) := by decide +kernel
theorem dX9_reckoned_6 : decode cX9_reckoned 6 = .ok (.bipush 16, 2) := by decide +kernel
theorem dX9_reckoned_8 : decode cX9_reckoned 8 = .ok (.if_icmp .ge 8, 3) := by decide +kernel
theorem dX9_reckoned_11 : decode cX9_reckoned 11 = .ok (.aload_n 0, 1) := by decide +kernel
theorem dX9_reckoned_12 : decode cX9_reckoned 12 = .ok (.invokevirtual 122, 3) := by decide +kernel
theorem dX9_reckoned_15 : decode cX9_reckoned 15 = .ok (.lreturn, 1) := by decide +kernel
theorem dX9_reckoned_16 : decode cX9_reckoned 16 = .ok (.aload_n 0, 1) := by decide +kernel
theorem dX9_reckoned_17 : decode cX9_reckoned 17 = .ok (.getfield 68, 3) := by decide +kernel
theorem dX9_reckoned_20 : decode cX9_reckoned 20 = .ok (.bipush 20, 2) := by decide +kernel
theorem dX9_reckoned_22 : decode cX9_reckoned 22 = .ok (.if_icmp .ge 8, 3) := by decide +kernel
theorem dX9_reckoned_25 : decode cX9_reckoned 25 = .ok (.aload_n 0, 1) := by decide +kernel
theorem dX9_reckoned_26 : decode cX9_reckoned 26 = .ok (.invokevirtual 126, 3) := by decide +kernel
theorem dX9_reckoned_29 : decode cX9_reckoned 29 = .ok (.lreturn, 1) := by decide +kernel
theorem dX9_reckoned_30 : decode cX9_reckoned 30 = .ok (.aload_n 0, 1) := by decide +kernel
theorem dX9_reckoned_31 : decode cX9_reckoned 31 = .ok (.getfield 68, 3) := by decide +kernel
theorem dX9_reckoned_34 : decode cX9_reckoned 34 = .ok (.bipush 30, 2) := by decide +kernel
theorem dX9_reckoned_36 : decode cX9_reckoned 36 = .ok (.if_icmp .ne 28, 3) := by decide +kernel
theorem dX9_reckoned_39 : decode cX9_reckoned 39 = .ok (.aload_n 0, 1) := by decide +kernel
theorem dX9_reckoned_40 : decode cX9_reckoned 40 = .ok (.getfield 16, 3) := by decide +kernel
theorem dX9_reckoned_43 : decode cX9_reckoned 43 = .ok (.aload_n 0, 1) := by decide +kernel
theorem dX9_reckoned_44 : decode cX9_reckoned 44 = .ok (.getfield 83, 3) := by decide +kernel
theorem dX9_reckoned_47 : decode cX9_reckoned 47 = .ok (.laload, 1) := by decide +kernel
theorem dX9_reckoned_48 : decode cX9_reckoned 48 = .ok (.aload_n 0, 1) := by decide +kernel
theorem dX9_reckoned_49 : decode cX9_reckoned 49 = .ok (.getfield 16, 3) := by decide +kernel
theorem dX9_reckoned_52 : decode cX9_reckoned 52 = .ok (.aload_n 0, 1) := by decide +kernel
theorem dX9_reckoned_53 : decode cX9_reckoned 53 = .ok (.getfield 86, 3) := by decide +kernel
theorem dX9_reckoned_56 : decode cX9_reckoned 56 = .ok (.laload, 1) := by decide +kernel
theorem dX9_reckoned_57 : decode cX9_reckoned 57 = .ok (.ldc2_w 42, 3) := by decide +kernel
theorem dX9_reckoned_60 : decode cX9_reckoned 60 = .ok (.invokestatic 56, 3) := by decide +kernel
theorem dX9_reckoned_63 : decode cX9_reckoned 63 = .ok (.lreturn, 1) := by decide +kernel
theorem dX9_reckoned_64 : decode cX9_reckoned 64 = .ok (.aload_n 0, 1) := by decide +kernel
theorem dX9_reckoned_65 : decode cX9_reckoned 65 = .ok (.getfield 68, 3) := by decide +kernel
theorem dX9_reckoned_68 : decode cX9_reckoned 68 = .ok (.bipush 31, 2) := by decide +kernel
theorem dX9_reckoned_70 : decode cX9_reckoned 70 = .ok (.if_icmp .ne 28, 3) := by decide +kernel
theorem dX9_reckoned_73 : decode cX9_reckoned 73 = .ok (.aload_n 0, 1) := by decide +kernel
theorem dX9_reckoned_74 : decode cX9_reckoned 74 = .ok (.getfield 16, 3) := by decide +kernel
theorem dX9_reckoned_77 : decode cX9_reckoned 77 = .ok (.aload_n 0, 1) := by decide +kernel
theorem dX9_reckoned_78 : decode cX9_reckoned 78 = .ok (.getfield 83, 3) := by decide +kernel
theorem dX9_reckoned_81 : decode cX9_reckoned 81 = .ok (.laload, 1) := by decide +kernel
theorem dX9_reckoned_82 : decode cX9_reckoned 82 = .ok (.aload_n 0, 1) := by decide +kernel
theorem dX9_reckoned_83 : decode cX9_reckoned 83 = .ok (.getfield 16, 3) := by decide +kernel
theorem dX9_reckoned_86 : decode cX9_reckoned 86 = .ok (.aload_n 0, 1) := by decide +kernel
theorem dX9_reckoned_87 : decode cX9_reckoned 87 = .ok (.getfield 86, 3) := by decide +kernel
theorem dX9_reckoned_90 : decode cX9_reckoned 90 = .ok (.laload, 1) := by decide +kernel
theorem dX9_reckoned_91 : decode cX9_reckoned 91 = .ok (.ldc2_w 42, 3) := by decide +kernel
theorem dX9_reckoned_94 : decode cX9_reckoned 94 = .ok (.invokestatic 129, 3) := by decide +kernel
theorem dX9_reckoned_97 : decode cX9_reckoned 97 = .ok (.lreturn, 1) := by decide +kernel
theorem dX9_reckoned_98 : decode cX9_reckoned 98 = .ok (.aload_n 0, 1) := by decide +kernel
theorem dX9_reckoned_99 : decode cX9_reckoned 99 = .ok (.getfield 68, 3) := by decide +kernel
theorem dX9_reckoned_102 : decode cX9_reckoned 102 = .ok (.bipush 35, 2) := by decide +kernel
theorem dX9_reckoned_104 : decode cX9_reckoned 104 = .ok (.if_icmp .ne 45, 3) := by decide +kernel
theorem dX9_reckoned_107 : decode cX9_reckoned 107 = .ok (.ldc2_w 42, 3) := by decide +kernel
theorem dX9_reckoned_110 : decode cX9_reckoned 110 = .ok (.bipush 8, 2) := by decide +kernel
theorem dX9_reckoned_112 : decode cX9_reckoned 112 = .ok (.aload_n 0, 1) := by decide +kernel
theorem dX9_reckoned_113 : decode cX9_reckoned 113 = .ok (.getfield 83, 3) := by decide +kernel
theorem dX9_reckoned_116 : decode cX9_reckoned 116 = .ok (.imul, 1) := by decide +kernel
theorem dX9_reckoned_117 : decode cX9_reckoned 117 = .ok (.aload_n 0, 1) := by decide +kernel
theorem dX9_reckoned_118 : decode cX9_reckoned 118 = .ok (.getfield 86, 3) := by decide +kernel
theorem dX9_reckoned_121 : decode cX9_reckoned 121 = .ok (.iadd, 1) := by decide +kernel
theorem dX9_reckoned_122 : decode cX9_reckoned 122 = .ok (.bipush 60, 2) := by decide +kernel
theorem dX9_reckoned_124 : decode cX9_reckoned 124 = .ok (.if_icmp .lt 7, 3) := by decide +kernel
theorem dX9_reckoned_127 : decode cX9_reckoned 127 = .ok (.lconst 0, 1) := by decide +kernel
theorem dX9_reckoned_128 : decode cX9_reckoned 128 = .ok (.goto 19, 3) := by decide +kernel
theorem dX9_reckoned_131 : decode cX9_reckoned 131 = .ok (.ldc2_w 42, 3) := by decide +kernel
theorem dX9_reckoned_134 : decode cX9_reckoned 134 = .ok (.bipush 8, 2) := by decide +kernel
theorem dX9_reckoned_136 : decode cX9_reckoned 136 = .ok (.aload_n 0, 1) := by decide +kernel
theorem dX9_reckoned_137 : decode cX9_reckoned 137 = .ok (.getfield 83, 3) := by decide +kernel
theorem dX9_reckoned_140 : decode cX9_reckoned 140 = .ok (.imul, 1) := by decide +kernel
theorem dX9_reckoned_141 : decode cX9_reckoned 141 = .ok (.aload_n 0, 1) := by decide +kernel
theorem dX9_reckoned_142 : decode cX9_reckoned 142 = .ok (.getfield 86, 3) := by decide +kernel
theorem dX9_reckoned_145 : decode cX9_reckoned 145 = .ok (.iadd, 1) := by decide +kernel
theorem dX9_reckoned_146 : decode cX9_reckoned 146 = .ok (.lshr, 1) := by decide +kernel
theorem dX9_reckoned_147 : decode cX9_reckoned 147 = .ok (.lsub, 1) := by decide +kernel
theorem dX9_reckoned_148 : decode cX9_reckoned 148 = .ok (.lreturn, 1) := by decide +kernel
theorem dX9_reckoned_149 : decode cX9_reckoned 149 = .ok (.iconst 0, 1) := by decide +kernel
theorem dX9_reckoned_150 : decode cX9_reckoned 150 = .ok (.istore_n 3, 1) := by decide +kernel
theorem dX9_reckoned_151 : decode cX9_reckoned 151 = .ok (.iload_n 3, 1) := by decide +kernel
theorem dX9_reckoned_152 : decode cX9_reckoned 152 = .ok (.bipush 60, 2) := by decide +kernel
theorem dX9_reckoned_154 : decode cX9_reckoned 154 = .ok (.if_icmp .ge 25, 3) := by decide +kernel
theorem dX9_reckoned_157 : decode cX9_reckoned 157 = .ok (.lload_n 1, 1) := by decide +kernel
theorem dX9_reckoned_158 : decode cX9_reckoned 158 = .ok (.aload_n 0, 1) := by decide +kernel
theorem dX9_reckoned_159 : decode cX9_reckoned 159 = .ok (.getfield 16, 3) := by decide +kernel
theorem dX9_reckoned_162 : decode cX9_reckoned 162 = .ok (.aload_n 0, 1) := by decide +kernel
theorem dX9_reckoned_163 : decode cX9_reckoned 163 = .ok (.getfield 86, 3) := by decide +kernel
theorem dX9_reckoned_166 : decode cX9_reckoned 166 = .ok (.laload, 1) := by decide +kernel
theorem dX9_reckoned_167 : decode cX9_reckoned 167 = .ok (.iload_n 3, 1) := by decide +kernel
theorem dX9_reckoned_168 : decode cX9_reckoned 168 = .ok (.lshr, 1) := by decide +kernel
theorem dX9_reckoned_169 : decode cX9_reckoned 169 = .ok (.lconst 1, 1) := by decide +kernel
theorem dX9_reckoned_170 : decode cX9_reckoned 170 = .ok (.land, 1) := by decide +kernel
theorem dX9_reckoned_171 : decode cX9_reckoned 171 = .ok (.ladd, 1) := by decide +kernel
theorem dX9_reckoned_172 : decode cX9_reckoned 172 = .ok (.lstore_n 1, 1) := by decide +kernel
theorem dX9_reckoned_173 : decode cX9_reckoned 173 = .ok (.iinc 3 1, 3) := by decide +kernel
theorem dX9_reckoned_176 : decode cX9_reckoned 176 = .ok (.goto (-25), 3) := by decide +kernel
theorem dX9_reckoned_179 : decode cX9_reckoned 179 = .ok (.lload_n 1, 1) := by decide +kernel
theorem dX9_reckoned_180 : decode cX9_reckoned 180 = .ok (.lreturn, 1) := by decide +kernel
set_option maxRecDepth 20000 in
theorem ggX9_placed_X9_less : GoodIn wsX9_placed wsX9_less := goodIn_r _ [10, 11, 12, 9, 13] (by decide +kernel) (by decide +kernel)
set_option maxRecDepth 20000 in
theorem gX9_placed_X9_less : GoodIn wsX9_placed (va_wsS RX9 129 yX9_less wsX9_less) := goodIn_app (goodIn_of _ (by decide +kernel)) ggX9_placed_X9_less
set_option maxRecDepth 20000 in
theorem ggX9_placed_X9_sum : GoodIn wsX9_placed wsX9_sum := goodIn_r _ [13] (by decide +kernel) (by decide +kernel)
set_option maxRecDepth 20000 in
theorem gX9_placed_X9_sum : GoodIn wsX9_placed (va_wsS RX9 56 yX9_sum wsX9_sum) := goodIn_app (goodIn_of _ (by decide +kernel)) ggX9_placed_X9_sum
theorem dX9_placed_0 : decode cX9_placed 0 = .ok (.aload_n 0, 1) := by decide +kernel
theorem dX9_placed_1 : decode cX9_placed 1 = .ok (.getfield 68, 3) := by decide +kernel
theorem dX9_placed_4 : decode cX9_placed 4 = .ok (.bipush 8, 2) := by decide +kernel
theorem dX9_placed_6 : decode cX9_placed 6 = .ok (.irem, 1) := by decide +kernel
theorem dX9_placed_7 : decode cX9_placed 7 = .ok (.istore_n 1, 1) := by decide +kernel
theorem dX9_placed_8 : decode cX9_placed 8 = .ok (.iload_n 1, 1) := by decide +kernel
theorem dX9_placed_9 : decode cX9_placed 9 = .ok (.ifCond .eq 13, 3) := by decide +kernel
theorem dX9_placed_12 : decode cX9_placed 12 = .ok (.iload_n 1, 1) := by decide +kernel
theorem dX9_placed_13 : decode cX9_placed 13 = .ok (.iconst 4, 1) := by decide +kernel
theorem dX9_placed_14 : decode cX9_placed 14 = .ok (.if_icmp .eq 8, 3) := by decide +kernel
theorem dX9_placed_17 : decode cX9_placed 17 = .ok (.iload_n 1, 1) := by decide +kernel
theorem dX9_placed_18 : decode cX9_placed 18 = .ok (.iconst 5, 1) := by decide +kernel
theorem dX9_placed_19 : decode cX9_placed 19 = .ok (.if_icmp .ne 18, 3) := by decide +kernel
theorem dX9_placed_22 : decode cX9_placed 22 = .ok (.aload_n 0, 1) := by decide +kernel
theorem dX9_placed_23 : decode cX9_placed 23 = .ok (.getfield 16, 3) := by decide +kernel
theorem dX9_placed_26 : decode cX9_placed 26 = .ok (.bipush 8, 2) := by decide +kernel
theorem dX9_placed_28 : decode cX9_placed 28 = .ok (.aload_n 0, 1) := by decide +kernel
theorem dX9_placed_29 : decode cX9_placed 29 = .ok (.getfield 83, 3) := by decide +kernel
theorem dX9_placed_32 : decode cX9_placed 32 = .ok (.iadd, 1) := by decide +kernel
theorem dX9_placed_33 : decode cX9_placed 33 = .ok (.laload, 1) := by decide +kernel
theorem dX9_placed_34 : decode cX9_placed 34 = .ok (.goto 41, 3) := by decide +kernel
theorem dX9_placed_37 : decode cX9_placed 37 = .ok (.iload_n 1, 1) := by decide +kernel
theorem dX9_placed_38 : decode cX9_placed 38 = .ok (.iconst 2, 1) := by decide +kernel
theorem dX9_placed_39 : decode cX9_placed 39 = .ok (.if_icmp .eq 8, 3) := by decide +kernel
theorem dX9_placed_42 : decode cX9_placed 42 = .ok (.iload_n 1, 1) := by decide +kernel
theorem dX9_placed_43 : decode cX9_placed 43 = .ok (.iconst 3, 1) := by decide +kernel
theorem dX9_placed_44 : decode cX9_placed 44 = .ok (.if_icmp .ne 19, 3) := by decide +kernel
theorem dX9_placed_47 : decode cX9_placed 47 = .ok (.aload_n 0, 1) := by decide +kernel
theorem dX9_placed_48 : decode cX9_placed 48 = .ok (.getfield 16, 3) := by decide +kernel
theorem dX9_placed_51 : decode cX9_placed 51 = .ok (.aload_n 0, 1) := by decide +kernel
theorem dX9_placed_52 : decode cX9_placed 52 = .ok (.getfield 83, 3) := by decide +kernel
theorem dX9_placed_55 : decode cX9_placed 55 = .ok (.laload, 1) := by decide +kernel
theorem dX9_placed_56 : decode cX9_placed 56 = .ok (.ldc2_w 44, 3) := by decide +kernel
theorem dX9_placed_59 : decode cX9_placed 59 = .ok (.land, 1) := by decide +kernel
theorem dX9_placed_60 : decode cX9_placed 60 = .ok (.goto 15, 3) := by decide +kernel
theorem dX9_placed_63 : decode cX9_placed 63 = .ok (.aload_n 0, 1) := by decide +kernel
theorem dX9_placed_64 : decode cX9_placed 64 = .ok (.getfield 16, 3) := by decide +kernel
theorem dX9_placed_67 : decode cX9_placed 67 = .ok (.bipush 16, 2) := by decide +kernel
theorem dX9_placed_69 : decode cX9_placed 69 = .ok (.aload_n 0, 1) := by decide +kernel
theorem dX9_placed_70 : decode cX9_placed 70 = .ok (.getfield 83, 3) := by decide +kernel
theorem dX9_placed_73 : decode cX9_placed 73 = .ok (.iadd, 1) := by decide +kernel
theorem dX9_placed_74 : decode cX9_placed 74 = .ok (.laload, 1) := by decide +kernel
theorem dX9_placed_75 : decode cX9_placed 75 = .ok (.lstore_n 2, 1) := by decide +kernel
theorem dX9_placed_76 : decode cX9_placed 76 = .ok (.iload_n 1, 1) := by decide +kernel
theorem dX9_placed_77 : decode cX9_placed 77 = .ok (.iconst 3, 1) := by decide +kernel
theorem dX9_placed_78 : decode cX9_placed 78 = .ok (.if_icmp .ge 11, 3) := by decide +kernel
theorem dX9_placed_81 : decode cX9_placed 81 = .ok (.aload_n 0, 1) := by decide +kernel
theorem dX9_placed_82 : decode cX9_placed 82 = .ok (.getfield 93, 3) := by decide +kernel
theorem dX9_placed_85 : decode cX9_placed 85 = .ok (.i2l, 1) := by decide +kernel
theorem dX9_placed_86 : decode cX9_placed 86 = .ok (.goto 15, 3) := by decide +kernel
theorem dX9_placed_89 : decode cX9_placed 89 = .ok (.aload_n 0, 1) := by decide +kernel
theorem dX9_placed_90 : decode cX9_placed 90 = .ok (.getfield 16, 3) := by decide +kernel
theorem dX9_placed_93 : decode cX9_placed 93 = .ok (.bipush 16, 2) := by decide +kernel
theorem dX9_placed_95 : decode cX9_placed 95 = .ok (.aload_n 0, 1) := by decide +kernel
theorem dX9_placed_96 : decode cX9_placed 96 = .ok (.getfield 86, 3) := by decide +kernel
theorem dX9_placed_99 : decode cX9_placed 99 = .ok (.iadd, 1) := by decide +kernel
theorem dX9_placed_100 : decode cX9_placed 100 = .ok (.laload, 1) := by decide +kernel
theorem dX9_placed_101 : decode cX9_placed 101 = .ok (.lstore 4, 2) := by decide +kernel
theorem dX9_placed_103 : decode cX9_placed 103 = .ok (.iload_n 1, 1) := by decide +kernel
theorem dX9_placed_104 : decode cX9_placed 104 = .ok (.iconst 5, 1) := by decide +kernel
theorem dX9_placed_105 : decode cX9_placed 105 = .ok (.if_icmp .eq 9, 3) := by decide +kernel
theorem dX9_placed_108 : decode cX9_placed 108 = .ok (.iload_n 1, 1) := by decide +kernel
theorem dX9_placed_109 : decode cX9_placed 109 = .ok (.bipush 7, 2) := by decide +kernel
theorem dX9_placed_111 : decode cX9_placed 111 = .ok (.if_icmp .ne 15, 3) := by decide +kernel
theorem dX9_placed_114 : decode cX9_placed 114 = .ok (.lload_n 2, 1) := by decide +kernel
theorem dX9_placed_115 : decode cX9_placed 115 = .ok (.lload 4, 2) := by decide +kernel
theorem dX9_placed_117 : decode cX9_placed 117 = .ok (.ldc2_w 44, 3) := by decide +kernel
theorem dX9_placed_120 : decode cX9_placed 120 = .ok (.invokestatic 129, 3) := by decide +kernel
theorem dX9_placed_123 : decode cX9_placed 123 = .ok (.goto 12, 3) := by decide +kernel
theorem dX9_placed_126 : decode cX9_placed 126 = .ok (.lload_n 2, 1) := by decide +kernel
theorem dX9_placed_127 : decode cX9_placed 127 = .ok (.lload 4, 2) := by decide +kernel
theorem dX9_placed_129 : decode cX9_placed 129 = .ok (.ldc2_w 44, 3) := by decide +kernel
theorem dX9_placed_132 : decode cX9_placed 132 = .ok (.invokestatic 56, 3) := by decide +kernel
theorem dX9_placed_135 : decode cX9_placed 135 = .ok (.lreturn, 1) := by decide +kernel
set_option maxRecDepth 20000 in
theorem ggX9_act_X9_reckoned : GoodIn wsX9_act wsX9_reckoned := goodIn_r _ [10, 1, 5, 11, 12, 13, 14, 15, 16, 9, 17, 18, 19, 20, 21, 2, 22, 23, 24, 25, 26, 27, 28, 29, 30, 31, 32, 33, 34, 35, 36, 52, 53, 54, 55, 56, 57, 58, 59, 60, 61, 62, 63, 64, 65, 66, 67, 68, 69, 70, 71, 72, 73, 74, 75] (by decide +kernel) (by decide +kernel)
set_option maxRecDepth 20000 in
theorem gX9_act_X9_reckoned : GoodIn wsX9_act (wsV RX9 132 RX9 yX9_reckoned wsX9_reckoned) := goodIn_app (goodIn_of _ (by decide +kernel)) ggX9_act_X9_reckoned
set_option maxRecDepth 20000 in
theorem ggX9_act_X9_set : GoodIn wsX9_act wsX9_set := goodIn_r _ [40, 5, 13, 41, 52, 53, 54, 55, 56, 57, 58, 59, 60, 61, 62, 63, 64, 65, 66, 67, 68, 69, 70, 71, 72, 73, 74, 75] (by decide +kernel) (by decide +kernel)
set_option maxRecDepth 20000 in
theorem gX9_act_X9_set : GoodIn wsX9_act (wsV RX9 46 RX9 yX9_set wsX9_set) := goodIn_app (goodIn_of _ (by decide +kernel)) ggX9_act_X9_set
set_option maxRecDepth 20000 in
theorem ggX9_act_X9_placed : GoodIn wsX9_act wsX9_placed := goodIn_r _ [45, 1, 5, 11, 41, 46, 12, 34, 35, 9, 36, 31, 32, 33, 52, 53, 54, 55, 56, 57, 58, 59, 60, 61, 62, 63, 64, 65, 66, 67, 68, 69, 70, 71, 72, 73, 74, 75] (by decide +kernel) (by decide +kernel)
set_option maxRecDepth 20000 in
theorem gX9_act_X9_placed : GoodIn wsX9_act (wsV RX9 135 RX9 yX9_placed wsX9_placed) := goodIn_app (goodIn_of _ (by decide +kernel)) ggX9_act_X9_placed
set_option maxRecDepth 20000 in
theorem ggX9_act_X9_extended : GoodIn wsX9_act wsX9_extended := goodIn_r _ [49, 50, 51] (by decide +kernel) (by decide +kernel)
set_option maxRecDepth 20000 in
theorem gX9_act_X9_extended : GoodIn wsX9_act (va_wsS RX9 138 yX9_extended wsX9_extended) := goodIn_app (goodIn_of _ (by decide +kernel)) ggX9_act_X9_extended
theorem dX9_act_0 : decode cX9_act 0 = .ok (.aload_n 0, 1) := by decide +kernel
theorem dX9_act_1 : decode cX9_act 1 = .ok (.getfield 68, 3) := by decide +kernel
theorem dX9_act_4 : decode cX9_act 4 = .ok (.bipush 40, 2) := by decide +kernel
theorem dX9_act_6 : decode cX9_act 6 = .ok (.if_icmp .ge 16, 3) := by decide +kernel
theorem dX9_act_9 : decode cX9_act 9 = .ok (.aload_n 0, 1) := by decide +kernel
theorem dX9_act_10 : decode cX9_act 10 = .ok (.aload_n 0, 1) := by decide +kernel
theorem dX9_act_11 : decode cX9_act 11 = .ok (.getfield 71, 3) := by decide +kernel
theorem dX9_act_14 : decode cX9_act 14 = .ok (.aload_n 0, 1) := by decide +kernel
theorem dX9_act_15 : decode cX9_act 15 = .ok (.invokevirtual 132, 3) := by decide +kernel
theorem dX9_act_18 : decode cX9_act 18 = .ok (.invokevirtual 46, 3) := by decide +kernel
theorem dX9_act_21 : decode cX9_act 21 = .ok (.return_, 1) := by decide +kernel
theorem dX9_act_22 : decode cX9_act 22 = .ok (.aload_n 0, 1) := by decide +kernel
theorem dX9_act_23 : decode cX9_act 23 = .ok (.invokevirtual 135, 3) := by decide +kernel
theorem dX9_act_26 : decode cX9_act 26 = .ok (.lstore_n 1, 1) := by decide +kernel
theorem dX9_act_27 : decode cX9_act 27 = .ok (.aload_n 0, 1) := by decide +kernel
theorem dX9_act_28 : decode cX9_act 28 = .ok (.getfield 68, 3) := by decide +kernel
theorem dX9_act_31 : decode cX9_act 31 = .ok (.bipush 56, 2) := by decide +kernel
theorem dX9_act_33 : decode cX9_act 33 = .ok (.if_icmp .lt 18, 3) := by decide +kernel
theorem dX9_act_36 : decode cX9_act 36 = .ok (.aload_n 0, 1) := by decide +kernel
theorem dX9_act_37 : decode cX9_act 37 = .ok (.aload_n 0, 1) := by decide +kernel
theorem dX9_act_38 : decode cX9_act 38 = .ok (.getfield 71, 3) := by decide +kernel
theorem dX9_act_41 : decode cX9_act 41 = .ok (.lload_n 1, 1) := by decide +kernel
theorem dX9_act_42 : decode cX9_act 42 = .ok (.invokestatic 138, 3) := by decide +kernel
theorem dX9_act_45 : decode cX9_act 45 = .ok (.invokevirtual 46, 3) := by decide +kernel
theorem dX9_act_48 : decode cX9_act 48 = .ok (.goto 123, 3) := by decide +kernel
theorem dX9_act_51 : decode cX9_act 51 = .ok (.aload_n 0, 1) := by decide +kernel
theorem dX9_act_52 : decode cX9_act 52 = .ok (.getfield 68, 3) := by decide +kernel
theorem dX9_act_55 : decode cX9_act 55 = .ok (.bipush 48, 2) := by decide +kernel
theorem dX9_act_57 : decode cX9_act 57 = .ok (.if_icmp .lt 18, 3) := by decide +kernel
theorem dX9_act_60 : decode cX9_act 60 = .ok (.aload_n 0, 1) := by decide +kernel
theorem dX9_act_61 : decode cX9_act 61 = .ok (.bipush 16, 2) := by decide +kernel
theorem dX9_act_63 : decode cX9_act 63 = .ok (.aload_n 0, 1) := by decide +kernel
theorem dX9_act_64 : decode cX9_act 64 = .ok (.getfield 71, 3) := by decide +kernel
theorem dX9_act_67 : decode cX9_act 67 = .ok (.iadd, 1) := by decide +kernel
theorem dX9_act_68 : decode cX9_act 68 = .ok (.lload_n 1, 1) := by decide +kernel
theorem dX9_act_69 : decode cX9_act 69 = .ok (.invokevirtual 46, 3) := by decide +kernel
theorem dX9_act_72 : decode cX9_act 72 = .ok (.goto 99, 3) := by decide +kernel
theorem dX9_act_75 : decode cX9_act 75 = .ok (.aload_n 0, 1) := by decide +kernel
theorem dX9_act_76 : decode cX9_act 76 = .ok (.bipush 8, 2) := by decide +kernel
theorem dX9_act_78 : decode cX9_act 78 = .ok (.aload_n 0, 1) := by decide +kernel
theorem dX9_act_79 : decode cX9_act 79 = .ok (.getfield 71, 3) := by decide +kernel
theorem dX9_act_82 : decode cX9_act 82 = .ok (.iadd, 1) := by decide +kernel
theorem dX9_act_83 : decode cX9_act 83 = .ok (.lload_n 1, 1) := by decide +kernel
theorem dX9_act_84 : decode cX9_act 84 = .ok (.invokevirtual 46, 3) := by decide +kernel
theorem dX9_act_87 : decode cX9_act 87 = .ok (.lload_n 1, 1) := by decide +kernel
theorem dX9_act_88 : decode cX9_act 88 = .ok (.ldc2_w 142, 3) := by decide +kernel
theorem dX9_act_91 : decode cX9_act 91 = .ok (.lcmp, 1) := by decide +kernel
theorem dX9_act_92 : decode cX9_act 92 = .ok (.ifCond .ge 7, 3) := by decide +kernel
theorem dX9_act_95 : decode cX9_act 95 = .ok (.iconst 1, 1) := by decide +kernel
theorem dX9_act_96 : decode cX9_act 96 = .ok (.goto 4, 3) := by decide +kernel
theorem dX9_act_99 : decode cX9_act 99 = .ok (.iconst 0, 1) := by decide +kernel
theorem dX9_act_100 : decode cX9_act 100 = .ok (.istore_n 3, 1) := by decide +kernel
theorem dX9_act_101 : decode cX9_act 101 = .ok (.aload_n 0, 1) := by decide +kernel
theorem dX9_act_102 : decode cX9_act 102 = .ok (.getfield 71, 3) := by decide +kernel
theorem dX9_act_105 : decode cX9_act 105 = .ok (.ifCond .le 38, 3) := by decide +kernel
theorem dX9_act_108 : decode cX9_act 108 = .ok (.aload_n 0, 1) := by decide +kernel
theorem dX9_act_109 : decode cX9_act 109 = .ok (.getfield 71, 3) := by decide +kernel
theorem dX9_act_112 : decode cX9_act 112 = .ok (.bipush 6, 2) := by decide +kernel
theorem dX9_act_114 : decode cX9_act 114 = .ok (.if_icmp .ge 29, 3) := by decide +kernel
theorem dX9_act_117 : decode cX9_act 117 = .ok (.aload_n 0, 1) := by decide +kernel
theorem dX9_act_118 : decode cX9_act 118 = .ok (.aload_n 0, 1) := by decide +kernel
theorem dX9_act_119 : decode cX9_act 119 = .ok (.getfield 71, 3) := by decide +kernel
theorem dX9_act_122 : decode cX9_act 122 = .ok (.iload_n 3, 1) := by decide +kernel
theorem dX9_act_123 : decode cX9_act 123 = .ok (.ifCond .eq 13, 3) := by decide +kernel
theorem dX9_act_126 : decode cX9_act 126 = .ok (.aload_n 0, 1) := by decide +kernel
theorem dX9_act_127 : decode cX9_act 127 = .ok (.getfield 7, 3) := by decide +kernel
theorem dX9_act_130 : decode cX9_act 130 = .ok (.lload_n 1, 1) := by decide +kernel
theorem dX9_act_131 : decode cX9_act 131 = .ok (.l2i, 1) := by decide +kernel
theorem dX9_act_132 : decode cX9_act 132 = .ok (.laload, 1) := by decide +kernel
theorem dX9_act_133 : decode cX9_act 133 = .ok (.goto 4, 3) := by decide +kernel
theorem dX9_act_136 : decode cX9_act 136 = .ok (.lconst 0, 1) := by decide +kernel
theorem dX9_act_137 : decode cX9_act 137 = .ok (.invokevirtual 46, 3) := by decide +kernel
theorem dX9_act_140 : decode cX9_act 140 = .ok (.goto 31, 3) := by decide +kernel
theorem dX9_act_143 : decode cX9_act 143 = .ok (.aload_n 0, 1) := by decide +kernel
theorem dX9_act_144 : decode cX9_act 144 = .ok (.getfield 71, 3) := by decide +kernel
theorem dX9_act_147 : decode cX9_act 147 = .ok (.iconst 5, 1) := by decide +kernel
theorem dX9_act_148 : decode cX9_act 148 = .ok (.if_icmp .le 23, 3) := by decide +kernel
theorem dX9_act_151 : decode cX9_act 151 = .ok (.iload_n 3, 1) := by decide +kernel
theorem dX9_act_152 : decode cX9_act 152 = .ok (.ifCond .eq 19, 3) := by decide +kernel
theorem dX9_act_155 : decode cX9_act 155 = .ok (.aload_n 0, 1) := by decide +kernel
theorem dX9_act_156 : decode cX9_act 156 = .ok (.getfield 7, 3) := by decide +kernel
theorem dX9_act_159 : decode cX9_act 159 = .ok (.lload_n 1, 1) := by decide +kernel
theorem dX9_act_160 : decode cX9_act 160 = .ok (.l2i, 1) := by decide +kernel
theorem dX9_act_161 : decode cX9_act 161 = .ok (.aload_n 0, 1) := by decide +kernel
theorem dX9_act_162 : decode cX9_act 162 = .ok (.getfield 16, 3) := by decide +kernel
theorem dX9_act_165 : decode cX9_act 165 = .ok (.aload_n 0, 1) := by decide +kernel
theorem dX9_act_166 : decode cX9_act 166 = .ok (.getfield 71, 3) := by decide +kernel
theorem dX9_act_169 : decode cX9_act 169 = .ok (.laload, 1) := by decide +kernel
theorem dX9_act_170 : decode cX9_act 170 = .ok (.lastore, 1) := by decide +kernel
theorem dX9_act_171 : decode cX9_act 171 = .ok (.return_, 1) := by decide +kernel
theorem dX9_later_0 : decode cX9_later 0 = .ok (.lload_n 0, 1) := by decide +kernel
theorem dX9_later_1 : decode cX9_later 1 = .ok (.lload_n 2, 1) := by decide +kernel
theorem dX9_later_2 : decode cX9_later 2 = .ok (.lcmp, 1) := by decide +kernel
theorem dX9_later_3 : decode cX9_later 3 = .ok (.ifCond .le 7, 3) := by decide +kernel
theorem dX9_later_6 : decode cX9_later 6 = .ok (.lload_n 0, 1) := by decide +kernel
theorem dX9_later_7 : decode cX9_later 7 = .ok (.goto 4, 3) := by decide +kernel
theorem dX9_later_10 : decode cX9_later 10 = .ok (.lload_n 2, 1) := by decide +kernel
theorem dX9_later_11 : decode cX9_later 11 = .ok (.lreturn, 1) := by decide +kernel
set_option maxRecDepth 20000 in
theorem ggX9_freeFrom_X9_later : GoodIn wsX9_freeFrom wsX9_later := goodIn_r _ [5] (by decide +kernel) (by decide +kernel)
set_option maxRecDepth 20000 in
theorem gX9_freeFrom_X9_later : GoodIn wsX9_freeFrom (va_wsS RX9 144 yX9_later wsX9_later) := goodIn_app (goodIn_of _ (by decide +kernel)) ggX9_freeFrom_X9_later
theorem dX9_freeFrom_0 : decode cX9_freeFrom 0 = .ok (.lconst 0, 1) := by decide +kernel
theorem dX9_freeFrom_1 : decode cX9_freeFrom 1 = .ok (.lstore_n 2, 1) := by decide +kernel
theorem dX9_freeFrom_2 : decode cX9_freeFrom 2 = .ok (.iconst 0, 1) := by decide +kernel
theorem dX9_freeFrom_3 : decode cX9_freeFrom 3 = .ok (.istore 4, 2) := by decide +kernel
theorem dX9_freeFrom_5 : decode cX9_freeFrom 5 = .ok (.iload 4, 2) := by decide +kernel
theorem dX9_freeFrom_7 : decode cX9_freeFrom 7 = .ok (.bipush 24, 2) := by decide +kernel
theorem dX9_freeFrom_9 : decode cX9_freeFrom 9 = .ok (.if_icmp .ge 35, 3) := by decide +kernel
theorem dX9_freeFrom_12 : decode cX9_freeFrom 12 = .ok (.iload_n 1, 1) := by decide +kernel
theorem dX9_freeFrom_13 : decode cX9_freeFrom 13 = .ok (.iload 4, 2) := by decide +kernel
theorem dX9_freeFrom_15 : decode cX9_freeFrom 15 = .ok (.ishr, 1) := by decide +kernel
theorem dX9_freeFrom_16 : decode cX9_freeFrom 16 = .ok (.iconst 1, 1) := by decide +kernel
theorem dX9_freeFrom_17 : decode cX9_freeFrom 17 = .ok (.iand, 1) := by decide +kernel
theorem dX9_freeFrom_18 : decode cX9_freeFrom 18 = .ok (.iconst 1, 1) := by decide +kernel
theorem dX9_freeFrom_19 : decode cX9_freeFrom 19 = .ok (.if_icmp .ne 17, 3) := by decide +kernel
theorem dX9_freeFrom_22 : decode cX9_freeFrom 22 = .ok (.lload_n 2, 1) := by decide +kernel
theorem dX9_freeFrom_23 : decode cX9_freeFrom 23 = .ok (.aload_n 0, 1) := by decide +kernel
theorem dX9_freeFrom_24 : decode cX9_freeFrom 24 = .ok (.getfield 30, 3) := by decide +kernel
theorem dX9_freeFrom_27 : decode cX9_freeFrom 27 = .ok (.iload 4, 2) := by decide +kernel
theorem dX9_freeFrom_29 : decode cX9_freeFrom 29 = .ok (.laload, 1) := by decide +kernel
theorem dX9_freeFrom_30 : decode cX9_freeFrom 30 = .ok (.invokestatic 144, 3) := by decide +kernel
theorem dX9_freeFrom_33 : decode cX9_freeFrom 33 = .ok (.goto 4, 3) := by decide +kernel
theorem dX9_freeFrom_36 : decode cX9_freeFrom 36 = .ok (.lload_n 2, 1) := by decide +kernel
theorem dX9_freeFrom_37 : decode cX9_freeFrom 37 = .ok (.lstore_n 2, 1) := by decide +kernel
theorem dX9_freeFrom_38 : decode cX9_freeFrom 38 = .ok (.iinc 4 1, 3) := by decide +kernel
theorem dX9_freeFrom_41 : decode cX9_freeFrom 41 = .ok (.goto (-36), 3) := by decide +kernel
theorem dX9_freeFrom_44 : decode cX9_freeFrom 44 = .ok (.lload_n 2, 1) := by decide +kernel
theorem dX9_freeFrom_45 : decode cX9_freeFrom 45 = .ok (.lreturn, 1) := by decide +kernel
theorem dX9_unit_0 : decode cX9_unit 0 = .ok (.aload_n 0, 1) := by decide +kernel
theorem dX9_unit_1 : decode cX9_unit 1 = .ok (.getfield 68, 3) := by decide +kernel
theorem dX9_unit_4 : decode cX9_unit 4 = .ok (.bipush 16, 2) := by decide +kernel
theorem dX9_unit_6 : decode cX9_unit 6 = .ok (.if_icmp .ge 7, 3) := by decide +kernel
theorem dX9_unit_9 : decode cX9_unit 9 = .ok (.iconst 0, 1) := by decide +kernel
theorem dX9_unit_10 : decode cX9_unit 10 = .ok (.goto 52, 3) := by decide +kernel
theorem dX9_unit_13 : decode cX9_unit 13 = .ok (.aload_n 0, 1) := by decide +kernel
theorem dX9_unit_14 : decode cX9_unit 14 = .ok (.getfield 68, 3) := by decide +kernel
theorem dX9_unit_17 : decode cX9_unit 17 = .ok (.bipush 20, 2) := by decide +kernel
theorem dX9_unit_19 : decode cX9_unit 19 = .ok (.if_icmp .lt 12, 3) := by decide +kernel
theorem dX9_unit_22 : decode cX9_unit 22 = .ok (.aload_n 0, 1) := by decide +kernel
theorem dX9_unit_23 : decode cX9_unit 23 = .ok (.getfield 68, 3) := by decide +kernel
theorem dX9_unit_26 : decode cX9_unit 26 = .ok (.bipush 35, 2) := by decide +kernel
theorem dX9_unit_28 : decode cX9_unit 28 = .ok (.if_icmp .ne 7, 3) := by decide +kernel
theorem dX9_unit_31 : decode cX9_unit 31 = .ok (.iconst 1, 1) := by decide +kernel
theorem dX9_unit_32 : decode cX9_unit 32 = .ok (.goto 30, 3) := by decide +kernel
theorem dX9_unit_35 : decode cX9_unit 35 = .ok (.aload_n 0, 1) := by decide +kernel
theorem dX9_unit_36 : decode cX9_unit 36 = .ok (.getfield 68, 3) := by decide +kernel
theorem dX9_unit_39 : decode cX9_unit 39 = .ok (.bipush 32, 2) := by decide +kernel
theorem dX9_unit_41 : decode cX9_unit 41 = .ok (.if_icmp .ge 7, 3) := by decide +kernel
theorem dX9_unit_44 : decode cX9_unit 44 = .ok (.iconst 2, 1) := by decide +kernel
theorem dX9_unit_45 : decode cX9_unit 45 = .ok (.goto 17, 3) := by decide +kernel
theorem dX9_unit_48 : decode cX9_unit 48 = .ok (.aload_n 0, 1) := by decide +kernel
theorem dX9_unit_49 : decode cX9_unit 49 = .ok (.getfield 68, 3) := by decide +kernel
theorem dX9_unit_52 : decode cX9_unit 52 = .ok (.bipush 39, 2) := by decide +kernel
theorem dX9_unit_54 : decode cX9_unit 54 = .ok (.if_icmp .ne 7, 3) := by decide +kernel
theorem dX9_unit_57 : decode cX9_unit 57 = .ok (.iconst 3, 1) := by decide +kernel
theorem dX9_unit_58 : decode cX9_unit 58 = .ok (.goto 4, 3) := by decide +kernel
theorem dX9_unit_61 : decode cX9_unit 61 = .ok (.iconst 4, 1) := by decide +kernel
theorem dX9_unit_62 : decode cX9_unit 62 = .ok (.ireturn, 1) := by decide +kernel
set_option maxRecDepth 20000 in
theorem ggX9_board_X9_unit : GoodIn wsX9_board wsX9_unit := goodIn_r _ [21, 22, 34, 35, 36, 37, 38, 39, 40, 41, 42, 43, 44, 45, 46, 47, 48, 49, 50, 51, 52, 53, 54, 55, 56, 57] (by decide +kernel) (by decide +kernel)
set_option maxRecDepth 20000 in
theorem gX9_board_X9_unit : GoodIn wsX9_board (wsV RX9 148 RX9 yX9_unit wsX9_unit) := goodIn_app (goodIn_of _ (by decide +kernel)) ggX9_board_X9_unit
set_option maxRecDepth 20000 in
theorem ggX9_board_X9_freeFrom : GoodIn wsX9_board wsX9_freeFrom := goodIn_r _ [26, 10, 27, 28, 20, 29, 34, 35, 36, 37, 38, 39, 40, 41, 42, 43, 44, 45, 46, 47, 48, 49, 50, 51, 52, 53, 54, 55, 56, 57] (by decide +kernel) (by decide +kernel)
set_option maxRecDepth 20000 in
theorem gX9_board_X9_freeFrom : GoodIn wsX9_board (wsV RX9 156 RX9 yX9_freeFrom wsX9_freeFrom) := goodIn_app (goodIn_of _ (by decide +kernel)) ggX9_board_X9_freeFrom
set_option maxRecDepth 20000 in
theorem ggX9_board_X9_later : GoodIn wsX9_board wsX9_later := goodIn_r _ [29] (by decide +kernel) (by decide +kernel)
set_option maxRecDepth 20000 in
theorem gX9_board_X9_later : GoodIn wsX9_board (va_wsS RX9 144 yX9_later wsX9_later) := goodIn_app (goodIn_of _ (by decide +kernel)) ggX9_board_X9_later
set_option maxRecDepth 20000 in
theorem ggX9_board_X9_isMemory : GoodIn wsX9_board wsX9_isMemory := goodIn_r _ [33, 22, 12, 34, 35, 36, 37, 38, 39, 40, 41, 42, 43, 44, 45, 46, 47, 48, 49, 50, 51, 52, 53, 54, 55, 56, 57] (by decide +kernel) (by decide +kernel)
set_option maxRecDepth 20000 in
theorem gX9_board_X9_isMemory : GoodIn wsX9_board (wsV RX9 109 RX9 yX9_isMemory wsX9_isMemory) := goodIn_app (goodIn_of _ (by decide +kernel)) ggX9_board_X9_isMemory
theorem dX9_board_0 : decode cX9_board 0 = .ok (.aload_n 0, 1) := by decide +kernel
theorem dX9_board_1 : decode cX9_board 1 = .ok (.invokevirtual 148, 3) := by decide +kernel
theorem dX9_board_4 : decode cX9_board 4 = .ok (.istore_n 1, 1) := by decide +kernel
theorem dX9_board_5 : decode cX9_board 5 = .ok (.iload_n 1, 1) := by decide +kernel
theorem dX9_board_6 : decode cX9_board 6 = .ok (.iconst 4, 1) := by decide +kernel
theorem dX9_board_7 : decode cX9_board 7 = .ok (.if_icmp .ne 28, 3) := by decide +kernel
theorem dX9_board_10 : decode cX9_board 10 = .ok (.aload_n 0, 1) := by decide +kernel
theorem dX9_board_11 : decode cX9_board 11 = .ok (.getfield 36, 3) := by decide +kernel
theorem dX9_board_14 : decode cX9_board 14 = .ok (.iconst 5, 1) := by decide +kernel
theorem dX9_board_15 : decode cX9_board 15 = .ok (.laload, 1) := by decide +kernel
theorem dX9_board_16 : decode cX9_board 16 = .ok (.aload_n 0, 1) := by decide +kernel
theorem dX9_board_17 : decode cX9_board 17 = .ok (.getfield 36, 3) := by decide +kernel
theorem dX9_board_20 : decode cX9_board 20 = .ok (.iconst 4, 1) := by decide +kernel
theorem dX9_board_21 : decode cX9_board 21 = .ok (.laload, 1) := by decide +kernel
theorem dX9_board_22 : decode cX9_board 22 = .ok (.lcmp, 1) := by decide +kernel
theorem dX9_board_23 : decode cX9_board 23 = .ok (.ifCond .ge 12, 3) := by decide +kernel
theorem dX9_board_26 : decode cX9_board 26 = .ok (.aload_n 0, 1) := by decide +kernel
theorem dX9_board_27 : decode cX9_board 27 = .ok (.getfield 36, 3) := by decide +kernel
theorem dX9_board_30 : decode cX9_board 30 = .ok (.iconst 5, 1) := by decide +kernel
theorem dX9_board_31 : decode cX9_board 31 = .ok (.laload, 1) := by decide +kernel
theorem dX9_board_32 : decode cX9_board 32 = .ok (.goto 9, 3) := by decide +kernel
theorem dX9_board_35 : decode cX9_board 35 = .ok (.aload_n 0, 1) := by decide +kernel
theorem dX9_board_36 : decode cX9_board 36 = .ok (.getfield 36, 3) := by decide +kernel
theorem dX9_board_39 : decode cX9_board 39 = .ok (.iload_n 1, 1) := by decide +kernel
theorem dX9_board_40 : decode cX9_board 40 = .ok (.laload, 1) := by decide +kernel
theorem dX9_board_41 : decode cX9_board 41 = .ok (.lstore_n 2, 1) := by decide +kernel
theorem dX9_board_42 : decode cX9_board 42 = .ok (.aload_n 0, 1) := by decide +kernel
theorem dX9_board_43 : decode cX9_board 43 = .ok (.getfield 152, 3) := by decide +kernel
theorem dX9_board_46 : decode cX9_board 46 = .ok (.lload_n 2, 1) := by decide +kernel
theorem dX9_board_47 : decode cX9_board 47 = .ok (.aload_n 0, 1) := by decide +kernel
theorem dX9_board_48 : decode cX9_board 48 = .ok (.aload_n 0, 1) := by decide +kernel
theorem dX9_board_49 : decode cX9_board 49 = .ok (.getfield 99, 3) := by decide +kernel
theorem dX9_board_52 : decode cX9_board 52 = .ok (.invokevirtual 156, 3) := by decide +kernel
theorem dX9_board_55 : decode cX9_board 55 = .ok (.invokestatic 144, 3) := by decide +kernel
theorem dX9_board_58 : decode cX9_board 58 = .ok (.invokestatic 144, 3) := by decide +kernel
theorem dX9_board_61 : decode cX9_board 61 = .ok (.lstore 4, 2) := by decide +kernel
theorem dX9_board_63 : decode cX9_board 63 = .ok (.lload_n 2, 1) := by decide +kernel
theorem dX9_board_64 : decode cX9_board 64 = .ok (.aload_n 0, 1) := by decide +kernel
theorem dX9_board_65 : decode cX9_board 65 = .ok (.getfield 152, 3) := by decide +kernel
theorem dX9_board_68 : decode cX9_board 68 = .ok (.lcmp, 1) := by decide +kernel
theorem dX9_board_69 : decode cX9_board 69 = .ok (.ifCond .le 12, 3) := by decide +kernel
theorem dX9_board_72 : decode cX9_board 72 = .ok (.lload_n 2, 1) := by decide +kernel
theorem dX9_board_73 : decode cX9_board 73 = .ok (.aload_n 0, 1) := by decide +kernel
theorem dX9_board_74 : decode cX9_board 74 = .ok (.getfield 152, 3) := by decide +kernel
theorem dX9_board_77 : decode cX9_board 77 = .ok (.lsub, 1) := by decide +kernel
theorem dX9_board_78 : decode cX9_board 78 = .ok (.goto 4, 3) := by decide +kernel
theorem dX9_board_81 : decode cX9_board 81 = .ok (.lconst 0, 1) := by decide +kernel
theorem dX9_board_82 : decode cX9_board 82 = .ok (.lstore 6, 2) := by decide +kernel
theorem dX9_board_84 : decode cX9_board 84 = .ok (.aload_n 0, 1) := by decide +kernel
theorem dX9_board_85 : decode cX9_board 85 = .ok (.getfield 27, 3) := by decide +kernel
theorem dX9_board_88 : decode cX9_board 88 = .ok (.iconst 0, 1) := by decide +kernel
theorem dX9_board_89 : decode cX9_board 89 = .ok (.aload_n 0, 1) := by decide +kernel
theorem dX9_board_90 : decode cX9_board 90 = .ok (.getfield 27, 3) := by decide +kernel
theorem dX9_board_93 : decode cX9_board 93 = .ok (.iconst 0, 1) := by decide +kernel
theorem dX9_board_94 : decode cX9_board 94 = .ok (.laload, 1) := by decide +kernel
theorem dX9_board_95 : decode cX9_board 95 = .ok (.lload 6, 2) := by decide +kernel
theorem dX9_board_97 : decode cX9_board 97 = .ok (.ladd, 1) := by decide +kernel
theorem dX9_board_98 : decode cX9_board 98 = .ok (.lastore, 1) := by decide +kernel
theorem dX9_board_99 : decode cX9_board 99 = .ok (.aload_n 0, 1) := by decide +kernel
theorem dX9_board_100 : decode cX9_board 100 = .ok (.getfield 27, 3) := by decide +kernel
theorem dX9_board_103 : decode cX9_board 103 = .ok (.iconst 1, 1) := by decide +kernel
theorem dX9_board_104 : decode cX9_board 104 = .ok (.aload_n 0, 1) := by decide +kernel
theorem dX9_board_105 : decode cX9_board 105 = .ok (.getfield 27, 3) := by decide +kernel
theorem dX9_board_108 : decode cX9_board 108 = .ok (.iconst 1, 1) := by decide +kernel
theorem dX9_board_109 : decode cX9_board 109 = .ok (.laload, 1) := by decide +kernel
theorem dX9_board_110 : decode cX9_board 110 = .ok (.lload 4, 2) := by decide +kernel
theorem dX9_board_112 : decode cX9_board 112 = .ok (.ladd, 1) := by decide +kernel
theorem dX9_board_113 : decode cX9_board 113 = .ok (.aload_n 0, 1) := by decide +kernel
theorem dX9_board_114 : decode cX9_board 114 = .ok (.getfield 152, 3) := by decide +kernel
theorem dX9_board_117 : decode cX9_board 117 = .ok (.lsub, 1) := by decide +kernel
theorem dX9_board_118 : decode cX9_board 118 = .ok (.lload 6, 2) := by decide +kernel
theorem dX9_board_120 : decode cX9_board 120 = .ok (.lsub, 1) := by decide +kernel
theorem dX9_board_121 : decode cX9_board 121 = .ok (.lastore, 1) := by decide +kernel
theorem dX9_board_122 : decode cX9_board 122 = .ok (.iload_n 1, 1) := by decide +kernel
theorem dX9_board_123 : decode cX9_board 123 = .ok (.iconst 4, 1) := by decide +kernel
theorem dX9_board_124 : decode cX9_board 124 = .ok (.if_icmp .ne 19, 3) := by decide +kernel
theorem dX9_board_127 : decode cX9_board 127 = .ok (.aload_n 0, 1) := by decide +kernel
theorem dX9_board_128 : decode cX9_board 128 = .ok (.getfield 36, 3) := by decide +kernel
theorem dX9_board_131 : decode cX9_board 131 = .ok (.iconst 4, 1) := by decide +kernel
theorem dX9_board_132 : decode cX9_board 132 = .ok (.laload, 1) := by decide +kernel
theorem dX9_board_133 : decode cX9_board 133 = .ok (.lload 4, 2) := by decide +kernel
theorem dX9_board_135 : decode cX9_board 135 = .ok (.lcmp, 1) := by decide +kernel
theorem dX9_board_136 : decode cX9_board 136 = .ok (.ifCond .le 7, 3) := by decide +kernel
theorem dX9_board_139 : decode cX9_board 139 = .ok (.iconst 5, 1) := by decide +kernel
theorem dX9_board_140 : decode cX9_board 140 = .ok (.goto 4, 3) := by decide +kernel
theorem dX9_board_143 : decode cX9_board 143 = .ok (.iload_n 1, 1) := by decide +kernel
theorem dX9_board_144 : decode cX9_board 144 = .ok (.istore_n 1, 1) := by decide +kernel
theorem dX9_board_145 : decode cX9_board 145 = .ok (.lload 4, 2) := by decide +kernel
theorem dX9_board_147 : decode cX9_board 147 = .ok (.lconst 1, 1) := by decide +kernel
theorem dX9_board_148 : decode cX9_board 148 = .ok (.ladd, 1) := by decide +kernel
theorem dX9_board_149 : decode cX9_board 149 = .ok (.aload_n 0, 1) := by decide +kernel
theorem dX9_board_150 : decode cX9_board 150 = .ok (.aload_n 0, 1) := by decide +kernel
theorem dX9_board_151 : decode cX9_board 151 = .ok (.getfield 96, 3) := by decide +kernel
theorem dX9_board_154 : decode cX9_board 154 = .ok (.invokevirtual 156, 3) := by decide +kernel
theorem dX9_board_157 : decode cX9_board 157 = .ok (.invokestatic 144, 3) := by decide +kernel
theorem dX9_board_160 : decode cX9_board 160 = .ok (.lstore 8, 2) := by decide +kernel
theorem dX9_board_162 : decode cX9_board 162 = .ok (.aload_n 0, 1) := by decide +kernel
theorem dX9_board_163 : decode cX9_board 163 = .ok (.getfield 27, 3) := by decide +kernel
theorem dX9_board_166 : decode cX9_board 166 = .ok (.iconst 3, 1) := by decide +kernel
theorem dX9_board_167 : decode cX9_board 167 = .ok (.aload_n 0, 1) := by decide +kernel
theorem dX9_board_168 : decode cX9_board 168 = .ok (.getfield 27, 3) := by decide +kernel
theorem dX9_board_171 : decode cX9_board 171 = .ok (.iconst 3, 1) := by decide +kernel
theorem dX9_board_172 : decode cX9_board 172 = .ok (.laload, 1) := by decide +kernel
theorem dX9_board_173 : decode cX9_board 173 = .ok (.lload 8, 2) := by decide +kernel
theorem dX9_board_175 : decode cX9_board 175 = .ok (.ladd, 1) := by decide +kernel
theorem dX9_board_176 : decode cX9_board 176 = .ok (.lload 4, 2) := by decide +kernel
theorem dX9_board_178 : decode cX9_board 178 = .ok (.lsub, 1) := by decide +kernel
theorem dX9_board_179 : decode cX9_board 179 = .ok (.lconst 1, 1) := by decide +kernel
theorem dX9_board_180 : decode cX9_board 180 = .ok (.lsub, 1) := by decide +kernel
theorem dX9_board_181 : decode cX9_board 181 = .ok (.lastore, 1) := by decide +kernel
theorem dX9_board_182 : decode cX9_board 182 = .ok (.lload 8, 2) := by decide +kernel
theorem dX9_board_184 : decode cX9_board 184 = .ok (.iload_n 1, 1) := by decide +kernel
theorem dX9_board_185 : decode cX9_board 185 = .ok (.iconst 3, 1) := by decide +kernel
theorem dX9_board_186 : decode cX9_board 186 = .ok (.if_icmp .ne 9, 3) := by decide +kernel
theorem dX9_board_189 : decode cX9_board 189 = .ok (.ldc2_w 160, 3) := by decide +kernel
theorem dX9_board_192 : decode cX9_board 192 = .ok (.goto 6, 3) := by decide +kernel
theorem dX9_board_195 : decode cX9_board 195 = .ok (.ldc2_w 162, 3) := by decide +kernel
theorem dX9_board_198 : decode cX9_board 198 = .ok (.ladd, 1) := by decide +kernel
theorem dX9_board_199 : decode cX9_board 199 = .ok (.lstore 10, 2) := by decide +kernel
theorem dX9_board_201 : decode cX9_board 201 = .ok (.lload 10, 2) := by decide +kernel
theorem dX9_board_203 : decode cX9_board 203 = .ok (.lstore 12, 2) := by decide +kernel
theorem dX9_board_205 : decode cX9_board 205 = .ok (.iconst 0, 1) := by decide +kernel
theorem dX9_board_206 : decode cX9_board 206 = .ok (.istore 14, 2) := by decide +kernel
theorem dX9_board_208 : decode cX9_board 208 = .ok (.iload 14, 2) := by decide +kernel
theorem dX9_board_210 : decode cX9_board 210 = .ok (.bipush 24, 2) := by decide +kernel
theorem dX9_board_212 : decode cX9_board 212 = .ok (.if_icmp .ge 43, 3) := by decide +kernel
theorem dX9_board_215 : decode cX9_board 215 = .ok (.aload_n 0, 1) := by decide +kernel
theorem dX9_board_216 : decode cX9_board 216 = .ok (.getfield 99, 3) := by decide +kernel
theorem dX9_board_219 : decode cX9_board 219 = .ok (.iload 14, 2) := by decide +kernel
theorem dX9_board_221 : decode cX9_board 221 = .ok (.ishr, 1) := by decide +kernel
theorem dX9_board_222 : decode cX9_board 222 = .ok (.iconst 1, 1) := by decide +kernel
theorem dX9_board_223 : decode cX9_board 223 = .ok (.iand, 1) := by decide +kernel
theorem dX9_board_224 : decode cX9_board 224 = .ok (.iconst 1, 1) := by decide +kernel
theorem dX9_board_225 : decode cX9_board 225 = .ok (.if_icmp .ne 20, 3) := by decide +kernel
theorem dX9_board_228 : decode cX9_board 228 = .ok (.lload 12, 2) := by decide +kernel
theorem dX9_board_230 : decode cX9_board 230 = .ok (.aload_n 0, 1) := by decide +kernel
theorem dX9_board_231 : decode cX9_board 231 = .ok (.getfield 33, 3) := by decide +kernel
theorem dX9_board_234 : decode cX9_board 234 = .ok (.iload 14, 2) := by decide +kernel
theorem dX9_board_236 : decode cX9_board 236 = .ok (.laload, 1) := by decide +kernel
theorem dX9_board_237 : decode cX9_board 237 = .ok (.lconst 1, 1) := by decide +kernel
theorem dX9_board_238 : decode cX9_board 238 = .ok (.ladd, 1) := by decide +kernel
theorem dX9_board_239 : decode cX9_board 239 = .ok (.invokestatic 144, 3) := by decide +kernel
theorem dX9_board_242 : decode cX9_board 242 = .ok (.goto 5, 3) := by decide +kernel
theorem dX9_board_245 : decode cX9_board 245 = .ok (.lload 12, 2) := by decide +kernel
theorem dX9_board_247 : decode cX9_board 247 = .ok (.lstore 12, 2) := by decide +kernel
theorem dX9_board_249 : decode cX9_board 249 = .ok (.iinc 14 1, 3) := by decide +kernel
theorem dX9_board_252 : decode cX9_board 252 = .ok (.goto (-44), 3) := by decide +kernel
theorem dX9_board_255 : decode cX9_board 255 = .ok (.aload_n 0, 1) := by decide +kernel
theorem dX9_board_256 : decode cX9_board 256 = .ok (.invokevirtual 109, 3) := by decide +kernel
theorem dX9_board_259 : decode cX9_board 259 = .ok (.ifCond .eq 17, 3) := by decide +kernel
theorem dX9_board_262 : decode cX9_board 262 = .ok (.lload 12, 2) := by decide +kernel
theorem dX9_board_264 : decode cX9_board 264 = .ok (.aload_n 0, 1) := by decide +kernel
theorem dX9_board_265 : decode cX9_board 265 = .ok (.getfield 164, 3) := by decide +kernel
theorem dX9_board_268 : decode cX9_board 268 = .ok (.lconst 1, 1) := by decide +kernel
theorem dX9_board_269 : decode cX9_board 269 = .ok (.ladd, 1) := by decide +kernel
theorem dX9_board_270 : decode cX9_board 270 = .ok (.invokestatic 144, 3) := by decide +kernel
theorem dX9_board_273 : decode cX9_board 273 = .ok (.goto 5, 3) := by decide +kernel
theorem dX9_board_276 : decode cX9_board 276 = .ok (.lload 12, 2) := by decide +kernel
theorem dX9_board_278 : decode cX9_board 278 = .ok (.lstore 12, 2) := by decide +kernel
theorem dX9_board_280 : decode cX9_board 280 = .ok (.aload_n 0, 1) := by decide +kernel
theorem dX9_board_281 : decode cX9_board 281 = .ok (.getfield 27, 3) := by decide +kernel
theorem dX9_board_284 : decode cX9_board 284 = .ok (.iconst 4, 1) := by decide +kernel
theorem dX9_board_285 : decode cX9_board 285 = .ok (.aload_n 0, 1) := by decide +kernel
theorem dX9_board_286 : decode cX9_board 286 = .ok (.getfield 27, 3) := by decide +kernel
theorem dX9_board_289 : decode cX9_board 289 = .ok (.iconst 4, 1) := by decide +kernel
theorem dX9_board_290 : decode cX9_board 290 = .ok (.laload, 1) := by decide +kernel
theorem dX9_board_291 : decode cX9_board 291 = .ok (.lload 12, 2) := by decide +kernel
theorem dX9_board_293 : decode cX9_board 293 = .ok (.ladd, 1) := by decide +kernel
theorem dX9_board_294 : decode cX9_board 294 = .ok (.lload 10, 2) := by decide +kernel
theorem dX9_board_296 : decode cX9_board 296 = .ok (.lsub, 1) := by decide +kernel
theorem dX9_board_297 : decode cX9_board 297 = .ok (.lastore, 1) := by decide +kernel
theorem dX9_board_298 : decode cX9_board 298 = .ok (.iconst 0, 1) := by decide +kernel
theorem dX9_board_299 : decode cX9_board 299 = .ok (.istore 14, 2) := by decide +kernel
theorem dX9_board_301 : decode cX9_board 301 = .ok (.iload 14, 2) := by decide +kernel
theorem dX9_board_303 : decode cX9_board 303 = .ok (.bipush 24, 2) := by decide +kernel
theorem dX9_board_305 : decode cX9_board 305 = .ok (.if_icmp .ge 85, 3) := by decide +kernel
theorem dX9_board_308 : decode cX9_board 308 = .ok (.aload_n 0, 1) := by decide +kernel
theorem dX9_board_309 : decode cX9_board 309 = .ok (.getfield 33, 3) := by decide +kernel
theorem dX9_board_312 : decode cX9_board 312 = .ok (.iload 14, 2) := by decide +kernel
theorem dX9_board_314 : decode cX9_board 314 = .ok (.aload_n 0, 1) := by decide +kernel
theorem dX9_board_315 : decode cX9_board 315 = .ok (.getfield 96, 3) := by decide +kernel
theorem dX9_board_318 : decode cX9_board 318 = .ok (.iload 14, 2) := by decide +kernel
theorem dX9_board_320 : decode cX9_board 320 = .ok (.ishr, 1) := by decide +kernel
theorem dX9_board_321 : decode cX9_board 321 = .ok (.iconst 1, 1) := by decide +kernel
theorem dX9_board_322 : decode cX9_board 322 = .ok (.iand, 1) := by decide +kernel
theorem dX9_board_323 : decode cX9_board 323 = .ok (.iconst 1, 1) := by decide +kernel
theorem dX9_board_324 : decode cX9_board 324 = .ok (.if_icmp .ne 18, 3) := by decide +kernel
theorem dX9_board_327 : decode cX9_board 327 = .ok (.aload_n 0, 1) := by decide +kernel
theorem dX9_board_328 : decode cX9_board 328 = .ok (.getfield 33, 3) := by decide +kernel
theorem dX9_board_331 : decode cX9_board 331 = .ok (.iload 14, 2) := by decide +kernel
theorem dX9_board_333 : decode cX9_board 333 = .ok (.laload, 1) := by decide +kernel
theorem dX9_board_334 : decode cX9_board 334 = .ok (.lload 8, 2) := by decide +kernel
theorem dX9_board_336 : decode cX9_board 336 = .ok (.invokestatic 144, 3) := by decide +kernel
theorem dX9_board_339 : decode cX9_board 339 = .ok (.goto 10, 3) := by decide +kernel
theorem dX9_board_342 : decode cX9_board 342 = .ok (.aload_n 0, 1) := by decide +kernel
theorem dX9_board_343 : decode cX9_board 343 = .ok (.getfield 33, 3) := by decide +kernel
theorem dX9_board_346 : decode cX9_board 346 = .ok (.iload 14, 2) := by decide +kernel
theorem dX9_board_348 : decode cX9_board 348 = .ok (.laload, 1) := by decide +kernel
theorem dX9_board_349 : decode cX9_board 349 = .ok (.lastore, 1) := by decide +kernel
theorem dX9_board_350 : decode cX9_board 350 = .ok (.aload_n 0, 1) := by decide +kernel
theorem dX9_board_351 : decode cX9_board 351 = .ok (.getfield 30, 3) := by decide +kernel
theorem dX9_board_354 : decode cX9_board 354 = .ok (.iload 14, 2) := by decide +kernel
theorem dX9_board_356 : decode cX9_board 356 = .ok (.aload_n 0, 1) := by decide +kernel
theorem dX9_board_357 : decode cX9_board 357 = .ok (.getfield 99, 3) := by decide +kernel
theorem dX9_board_360 : decode cX9_board 360 = .ok (.iload 14, 2) := by decide +kernel
theorem dX9_board_362 : decode cX9_board 362 = .ok (.ishr, 1) := by decide +kernel
theorem dX9_board_363 : decode cX9_board 363 = .ok (.iconst 1, 1) := by decide +kernel
theorem dX9_board_364 : decode cX9_board 364 = .ok (.iand, 1) := by decide +kernel
theorem dX9_board_365 : decode cX9_board 365 = .ok (.iconst 1, 1) := by decide +kernel
theorem dX9_board_366 : decode cX9_board 366 = .ok (.if_icmp .ne 10, 3) := by decide +kernel
theorem dX9_board_369 : decode cX9_board 369 = .ok (.lload 12, 2) := by decide +kernel
theorem dX9_board_371 : decode cX9_board 371 = .ok (.lconst 1, 1) := by decide +kernel
theorem dX9_board_372 : decode cX9_board 372 = .ok (.ladd, 1) := by decide +kernel
theorem dX9_board_373 : decode cX9_board 373 = .ok (.goto 10, 3) := by decide +kernel
theorem dX9_board_376 : decode cX9_board 376 = .ok (.aload_n 0, 1) := by decide +kernel
theorem dX9_board_377 : decode cX9_board 377 = .ok (.getfield 30, 3) := by decide +kernel
theorem dX9_board_380 : decode cX9_board 380 = .ok (.iload 14, 2) := by decide +kernel
theorem dX9_board_382 : decode cX9_board 382 = .ok (.laload, 1) := by decide +kernel
theorem dX9_board_383 : decode cX9_board 383 = .ok (.lastore, 1) := by decide +kernel
theorem dX9_board_384 : decode cX9_board 384 = .ok (.iinc 14 1, 3) := by decide +kernel
theorem dX9_board_387 : decode cX9_board 387 = .ok (.goto (-86), 3) := by decide +kernel
theorem dX9_board_390 : decode cX9_board 390 = .ok (.aload_n 0, 1) := by decide +kernel
theorem dX9_board_391 : decode cX9_board 391 = .ok (.aload_n 0, 1) := by decide +kernel
theorem dX9_board_392 : decode cX9_board 392 = .ok (.getfield 167, 3) := by decide +kernel
theorem dX9_board_395 : decode cX9_board 395 = .ok (.lload 12, 2) := by decide +kernel
theorem dX9_board_397 : decode cX9_board 397 = .ok (.invokestatic 144, 3) := by decide +kernel
theorem dX9_board_400 : decode cX9_board 400 = .ok (.putfield 167, 3) := by decide +kernel
theorem dX9_board_403 : decode cX9_board 403 = .ok (.aload_n 0, 1) := by decide +kernel
theorem dX9_board_404 : decode cX9_board 404 = .ok (.invokevirtual 109, 3) := by decide +kernel
theorem dX9_board_407 : decode cX9_board 407 = .ok (.ifCond .eq 50, 3) := by decide +kernel
theorem dX9_board_410 : decode cX9_board 410 = .ok (.aload_n 0, 1) := by decide +kernel
theorem dX9_board_411 : decode cX9_board 411 = .ok (.lload 12, 2) := by decide +kernel
theorem dX9_board_413 : decode cX9_board 413 = .ok (.putfield 164, 3) := by decide +kernel
theorem dX9_board_416 : decode cX9_board 416 = .ok (.aload_n 0, 1) := by decide +kernel
theorem dX9_board_417 : decode cX9_board 417 = .ok (.getfield 71, 3) := by decide +kernel
theorem dX9_board_420 : decode cX9_board 420 = .ok (.bipush 6, 2) := by decide +kernel
theorem dX9_board_422 : decode cX9_board 422 = .ok (.if_icmp .ge 35, 3) := by decide +kernel
theorem dX9_board_425 : decode cX9_board 425 = .ok (.aload_n 0, 1) := by decide +kernel
theorem dX9_board_426 : decode cX9_board 426 = .ok (.getfield 30, 3) := by decide +kernel
theorem dX9_board_429 : decode cX9_board 429 = .ok (.aload_n 0, 1) := by decide +kernel
theorem dX9_board_430 : decode cX9_board 430 = .ok (.getfield 71, 3) := by decide +kernel
theorem dX9_board_433 : decode cX9_board 433 = .ok (.lload 12, 2) := by decide +kernel
theorem dX9_board_435 : decode cX9_board 435 = .ok (.ldc2_w 170, 3) := by decide +kernel
theorem dX9_board_438 : decode cX9_board 438 = .ok (.ladd, 1) := by decide +kernel
theorem dX9_board_439 : decode cX9_board 439 = .ok (.lastore, 1) := by decide +kernel
theorem dX9_board_440 : decode cX9_board 440 = .ok (.aload_n 0, 1) := by decide +kernel
theorem dX9_board_441 : decode cX9_board 441 = .ok (.aload_n 0, 1) := by decide +kernel
theorem dX9_board_442 : decode cX9_board 442 = .ok (.getfield 167, 3) := by decide +kernel
theorem dX9_board_445 : decode cX9_board 445 = .ok (.lload 12, 2) := by decide +kernel
theorem dX9_board_447 : decode cX9_board 447 = .ok (.ldc2_w 172, 3) := by decide +kernel
theorem dX9_board_450 : decode cX9_board 450 = .ok (.ladd, 1) := by decide +kernel
theorem dX9_board_451 : decode cX9_board 451 = .ok (.invokestatic 144, 3) := by decide +kernel
theorem dX9_board_454 : decode cX9_board 454 = .ok (.putfield 167, 3) := by decide +kernel
theorem dX9_board_457 : decode cX9_board 457 = .ok (.aload_n 0, 1) := by decide +kernel
theorem dX9_board_458 : decode cX9_board 458 = .ok (.getfield 36, 3) := by decide +kernel
theorem dX9_board_461 : decode cX9_board 461 = .ok (.iload_n 1, 1) := by decide +kernel
theorem dX9_board_462 : decode cX9_board 462 = .ok (.lload 12, 2) := by decide +kernel
theorem dX9_board_464 : decode cX9_board 464 = .ok (.lconst 1, 1) := by decide +kernel
theorem dX9_board_465 : decode cX9_board 465 = .ok (.ladd, 1) := by decide +kernel
theorem dX9_board_466 : decode cX9_board 466 = .ok (.lastore, 1) := by decide +kernel
theorem dX9_board_467 : decode cX9_board 467 = .ok (.aload_n 0, 1) := by decide +kernel
theorem dX9_board_468 : decode cX9_board 468 = .ok (.getfield 23, 3) := by decide +kernel
theorem dX9_board_471 : decode cX9_board 471 = .ok (.iload_n 1, 1) := by decide +kernel
theorem dX9_board_472 : decode cX9_board 472 = .ok (.dup2, 1) := by decide +kernel
theorem dX9_board_473 : decode cX9_board 473 = .ok (.iaload, 1) := by decide +kernel
theorem dX9_board_474 : decode cX9_board 474 = .ok (.iconst 1, 1) := by decide +kernel
theorem dX9_board_475 : decode cX9_board 475 = .ok (.iadd, 1) := by decide +kernel
theorem dX9_board_476 : decode cX9_board 476 = .ok (.iastore, 1) := by decide +kernel
theorem dX9_board_477 : decode cX9_board 477 = .ok (.aload_n 0, 1) := by decide +kernel
theorem dX9_board_478 : decode cX9_board 478 = .ok (.lload 4, 2) := by decide +kernel
theorem dX9_board_480 : decode cX9_board 480 = .ok (.aload_n 0, 1) := by decide +kernel
theorem dX9_board_481 : decode cX9_board 481 = .ok (.getfield 74, 3) := by decide +kernel
theorem dX9_board_484 : decode cX9_board 484 = .ok (.i2l, 1) := by decide +kernel
theorem dX9_board_485 : decode cX9_board 485 = .ok (.ladd, 1) := by decide +kernel
theorem dX9_board_486 : decode cX9_board 486 = .ok (.putfield 152, 3) := by decide +kernel
theorem dX9_board_489 : decode cX9_board 489 = .ok (.return_, 1) := by decide +kernel
set_option maxRecDepth 20000 in
theorem ggX9_holds_X9_signed : GoodIn wsX9_holds wsX9_signed := goodIn_r _ [11, 12] (by decide +kernel) (by decide +kernel)
set_option maxRecDepth 20000 in
theorem gX9_holds_X9_signed : GoodIn wsX9_holds (va_wsS RX9 176 yX9_signed wsX9_signed) := goodIn_app (goodIn_of _ (by decide +kernel)) ggX9_holds_X9_signed
theorem dX9_holds_0 : decode cX9_holds 0 = .ok (.aload_n 0, 1) := by decide +kernel
theorem dX9_holds_1 : decode cX9_holds 1 = .ok (.getfield 68, 3) := by decide +kernel
theorem dX9_holds_4 : decode cX9_holds 4 = .ok (.iconst 3, 1) := by decide +kernel
theorem dX9_holds_5 : decode cX9_holds 5 = .ok (.if_icmp .ge 5, 3) := by decide +kernel
theorem dX9_holds_8 : decode cX9_holds 8 = .ok (.iconst 1, 1) := by decide +kernel
theorem dX9_holds_9 : decode cX9_holds 9 = .ok (.ireturn, 1) := by decide +kernel
theorem dX9_holds_10 : decode cX9_holds 10 = .ok (.aload_n 0, 1) := by decide +kernel
theorem dX9_holds_11 : decode cX9_holds 11 = .ok (.getfield 68, 3) := by decide +kernel
theorem dX9_holds_14 : decode cX9_holds 14 = .ok (.iconst 3, 1) := by decide +kernel
theorem dX9_holds_15 : decode cX9_holds 15 = .ok (.if_icmp .ne 103, 3) := by decide +kernel
theorem dX9_holds_18 : decode cX9_holds 18 = .ok (.aload_n 0, 1) := by decide +kernel
theorem dX9_holds_19 : decode cX9_holds 19 = .ok (.getfield 16, 3) := by decide +kernel
theorem dX9_holds_22 : decode cX9_holds 22 = .ok (.aload_n 0, 1) := by decide +kernel
theorem dX9_holds_23 : decode cX9_holds 23 = .ok (.getfield 83, 3) := by decide +kernel
theorem dX9_holds_26 : decode cX9_holds 26 = .ok (.laload, 1) := by decide +kernel
theorem dX9_holds_27 : decode cX9_holds 27 = .ok (.lstore_n 1, 1) := by decide +kernel
theorem dX9_holds_28 : decode cX9_holds 28 = .ok (.lload_n 1, 1) := by decide +kernel
theorem dX9_holds_29 : decode cX9_holds 29 = .ok (.lconst 0, 1) := by decide +kernel
theorem dX9_holds_30 : decode cX9_holds 30 = .ok (.lcmp, 1) := by decide +kernel
theorem dX9_holds_31 : decode cX9_holds 31 = .ok (.ifCond .eq 11, 3) := by decide +kernel
theorem dX9_holds_34 : decode cX9_holds 34 = .ok (.lload_n 1, 1) := by decide +kernel
theorem dX9_holds_35 : decode cX9_holds 35 = .ok (.ldc2_w 42, 3) := by decide +kernel
theorem dX9_holds_38 : decode cX9_holds 38 = .ok (.lcmp, 1) := by decide +kernel
theorem dX9_holds_39 : decode cX9_holds 39 = .ok (.ifCond .ne 7, 3) := by decide +kernel
theorem dX9_holds_42 : decode cX9_holds 42 = .ok (.iconst 1, 1) := by decide +kernel
theorem dX9_holds_43 : decode cX9_holds 43 = .ok (.goto 4, 3) := by decide +kernel
theorem dX9_holds_46 : decode cX9_holds 46 = .ok (.iconst 0, 1) := by decide +kernel
theorem dX9_holds_47 : decode cX9_holds 47 = .ok (.istore_n 3, 1) := by decide +kernel
theorem dX9_holds_48 : decode cX9_holds 48 = .ok (.lload_n 1, 1) := by decide +kernel
theorem dX9_holds_49 : decode cX9_holds 49 = .ok (.ldc2_w 174, 3) := by decide +kernel
theorem dX9_holds_52 : decode cX9_holds 52 = .ok (.lcmp, 1) := by decide +kernel
theorem dX9_holds_53 : decode cX9_holds 53 = .ok (.ifCond .le 7, 3) := by decide +kernel
theorem dX9_holds_56 : decode cX9_holds 56 = .ok (.iconst 1, 1) := by decide +kernel
theorem dX9_holds_57 : decode cX9_holds 57 = .ok (.goto 4, 3) := by decide +kernel
theorem dX9_holds_60 : decode cX9_holds 60 = .ok (.iconst 0, 1) := by decide +kernel
theorem dX9_holds_61 : decode cX9_holds 61 = .ok (.istore 4, 2) := by decide +kernel
theorem dX9_holds_63 : decode cX9_holds 63 = .ok (.aload_n 0, 1) := by decide +kernel
theorem dX9_holds_64 : decode cX9_holds 64 = .ok (.getfield 71, 3) := by decide +kernel
theorem dX9_holds_67 : decode cX9_holds 67 = .ok (.ifCond .ne 7, 3) := by decide +kernel
theorem dX9_holds_70 : decode cX9_holds 70 = .ok (.iload_n 3, 1) := by decide +kernel
theorem dX9_holds_71 : decode cX9_holds 71 = .ok (.goto 46, 3) := by decide +kernel
theorem dX9_holds_74 : decode cX9_holds 74 = .ok (.aload_n 0, 1) := by decide +kernel
theorem dX9_holds_75 : decode cX9_holds 75 = .ok (.getfield 71, 3) := by decide +kernel
theorem dX9_holds_78 : decode cX9_holds 78 = .ok (.iconst 1, 1) := by decide +kernel
theorem dX9_holds_79 : decode cX9_holds 79 = .ok (.if_icmp .ne 15, 3) := by decide +kernel
theorem dX9_holds_82 : decode cX9_holds 82 = .ok (.iload_n 3, 1) := by decide +kernel
theorem dX9_holds_83 : decode cX9_holds 83 = .ok (.ifCond .ne 7, 3) := by decide +kernel
theorem dX9_holds_86 : decode cX9_holds 86 = .ok (.iconst 1, 1) := by decide +kernel
theorem dX9_holds_87 : decode cX9_holds 87 = .ok (.goto 30, 3) := by decide +kernel
theorem dX9_holds_90 : decode cX9_holds 90 = .ok (.iconst 0, 1) := by decide +kernel
theorem dX9_holds_91 : decode cX9_holds 91 = .ok (.goto 26, 3) := by decide +kernel
theorem dX9_holds_94 : decode cX9_holds 94 = .ok (.aload_n 0, 1) := by decide +kernel
theorem dX9_holds_95 : decode cX9_holds 95 = .ok (.getfield 71, 3) := by decide +kernel
theorem dX9_holds_98 : decode cX9_holds 98 = .ok (.iconst 2, 1) := by decide +kernel
theorem dX9_holds_99 : decode cX9_holds 99 = .ok (.if_icmp .ne 16, 3) := by decide +kernel
theorem dX9_holds_102 : decode cX9_holds 102 = .ok (.iload 4, 2) := by decide +kernel
theorem dX9_holds_104 : decode cX9_holds 104 = .ok (.ifCond .ne 7, 3) := by decide +kernel
theorem dX9_holds_107 : decode cX9_holds 107 = .ok (.iconst 1, 1) := by decide +kernel
theorem dX9_holds_108 : decode cX9_holds 108 = .ok (.goto 9, 3) := by decide +kernel
theorem dX9_holds_111 : decode cX9_holds 111 = .ok (.iconst 0, 1) := by decide +kernel
theorem dX9_holds_112 : decode cX9_holds 112 = .ok (.goto 5, 3) := by decide +kernel
theorem dX9_holds_115 : decode cX9_holds 115 = .ok (.iload 4, 2) := by decide +kernel
theorem dX9_holds_117 : decode cX9_holds 117 = .ok (.ireturn, 1) := by decide +kernel
theorem dX9_holds_118 : decode cX9_holds 118 = .ok (.aload_n 0, 1) := by decide +kernel
theorem dX9_holds_119 : decode cX9_holds 119 = .ok (.getfield 16, 3) := by decide +kernel
theorem dX9_holds_122 : decode cX9_holds 122 = .ok (.bipush 16, 2) := by decide +kernel
theorem dX9_holds_124 : decode cX9_holds 124 = .ok (.aload_n 0, 1) := by decide +kernel
theorem dX9_holds_125 : decode cX9_holds 125 = .ok (.getfield 71, 3) := by decide +kernel
theorem dX9_holds_128 : decode cX9_holds 128 = .ok (.iadd, 1) := by decide +kernel
theorem dX9_holds_129 : decode cX9_holds 129 = .ok (.laload, 1) := by decide +kernel
theorem dX9_holds_130 : decode cX9_holds 130 = .ok (.ldc2_w 44, 3) := by decide +kernel
theorem dX9_holds_133 : decode cX9_holds 133 = .ok (.invokestatic 176, 3) := by decide +kernel
theorem dX9_holds_136 : decode cX9_holds 136 = .ok (.lstore_n 1, 1) := by decide +kernel
theorem dX9_holds_137 : decode cX9_holds 137 = .ok (.aload_n 0, 1) := by decide +kernel
theorem dX9_holds_138 : decode cX9_holds 138 = .ok (.getfield 16, 3) := by decide +kernel
theorem dX9_holds_141 : decode cX9_holds 141 = .ok (.bipush 16, 2) := by decide +kernel
theorem dX9_holds_143 : decode cX9_holds 143 = .ok (.aload_n 0, 1) := by decide +kernel
theorem dX9_holds_144 : decode cX9_holds 144 = .ok (.getfield 83, 3) := by decide +kernel
theorem dX9_holds_147 : decode cX9_holds 147 = .ok (.iadd, 1) := by decide +kernel
theorem dX9_holds_148 : decode cX9_holds 148 = .ok (.laload, 1) := by decide +kernel
theorem dX9_holds_149 : decode cX9_holds 149 = .ok (.ldc2_w 44, 3) := by decide +kernel
theorem dX9_holds_152 : decode cX9_holds 152 = .ok (.invokestatic 176, 3) := by decide +kernel
theorem dX9_holds_155 : decode cX9_holds 155 = .ok (.lstore_n 3, 1) := by decide +kernel
theorem dX9_holds_156 : decode cX9_holds 156 = .ok (.aload_n 0, 1) := by decide +kernel
theorem dX9_holds_157 : decode cX9_holds 157 = .ok (.getfield 68, 3) := by decide +kernel
theorem dX9_holds_160 : decode cX9_holds 160 = .ok (.iconst 4, 1) := by decide +kernel
theorem dX9_holds_161 : decode cX9_holds 161 = .ok (.if_icmp .ne 17, 3) := by decide +kernel
theorem dX9_holds_164 : decode cX9_holds 164 = .ok (.lload_n 1, 1) := by decide +kernel
theorem dX9_holds_165 : decode cX9_holds 165 = .ok (.lload_n 3, 1) := by decide +kernel
theorem dX9_holds_166 : decode cX9_holds 166 = .ok (.lcmp, 1) := by decide +kernel
theorem dX9_holds_167 : decode cX9_holds 167 = .ok (.ifCond .ne 7, 3) := by decide +kernel
theorem dX9_holds_170 : decode cX9_holds 170 = .ok (.iconst 1, 1) := by decide +kernel
theorem dX9_holds_171 : decode cX9_holds 171 = .ok (.goto 63, 3) := by decide +kernel
theorem dX9_holds_174 : decode cX9_holds 174 = .ok (.iconst 0, 1) := by decide +kernel
theorem dX9_holds_175 : decode cX9_holds 175 = .ok (.goto 59, 3) := by decide +kernel
theorem dX9_holds_178 : decode cX9_holds 178 = .ok (.aload_n 0, 1) := by decide +kernel
theorem dX9_holds_179 : decode cX9_holds 179 = .ok (.getfield 68, 3) := by decide +kernel
theorem dX9_holds_182 : decode cX9_holds 182 = .ok (.iconst 5, 1) := by decide +kernel
theorem dX9_holds_183 : decode cX9_holds 183 = .ok (.if_icmp .ne 17, 3) := by decide +kernel
theorem dX9_holds_186 : decode cX9_holds 186 = .ok (.lload_n 1, 1) := by decide +kernel
theorem dX9_holds_187 : decode cX9_holds 187 = .ok (.lload_n 3, 1) := by decide +kernel
theorem dX9_holds_188 : decode cX9_holds 188 = .ok (.lcmp, 1) := by decide +kernel
theorem dX9_holds_189 : decode cX9_holds 189 = .ok (.ifCond .eq 7, 3) := by decide +kernel
theorem dX9_holds_192 : decode cX9_holds 192 = .ok (.iconst 1, 1) := by decide +kernel
theorem dX9_holds_193 : decode cX9_holds 193 = .ok (.goto 41, 3) := by decide +kernel
theorem dX9_holds_196 : decode cX9_holds 196 = .ok (.iconst 0, 1) := by decide +kernel
theorem dX9_holds_197 : decode cX9_holds 197 = .ok (.goto 37, 3) := by decide +kernel
theorem dX9_holds_200 : decode cX9_holds 200 = .ok (.aload_n 0, 1) := by decide +kernel
theorem dX9_holds_201 : decode cX9_holds 201 = .ok (.getfield 68, 3) := by decide +kernel
theorem dX9_holds_204 : decode cX9_holds 204 = .ok (.bipush 6, 2) := by decide +kernel
theorem dX9_holds_206 : decode cX9_holds 206 = .ok (.if_icmp .ne 17, 3) := by decide +kernel
theorem dX9_holds_209 : decode cX9_holds 209 = .ok (.lload_n 1, 1) := by decide +kernel
theorem dX9_holds_210 : decode cX9_holds 210 = .ok (.lload_n 3, 1) := by decide +kernel
theorem dX9_holds_211 : decode cX9_holds 211 = .ok (.lcmp, 1) := by decide +kernel
theorem dX9_holds_212 : decode cX9_holds 212 = .ok (.ifCond .lt 7, 3) := by decide +kernel
theorem dX9_holds_215 : decode cX9_holds 215 = .ok (.iconst 1, 1) := by decide +kernel
theorem dX9_holds_216 : decode cX9_holds 216 = .ok (.goto 18, 3) := by decide +kernel
theorem dX9_holds_219 : decode cX9_holds 219 = .ok (.iconst 0, 1) := by decide +kernel
theorem dX9_holds_220 : decode cX9_holds 220 = .ok (.goto 14, 3) := by decide +kernel
theorem dX9_holds_223 : decode cX9_holds 223 = .ok (.lload_n 1, 1) := by decide +kernel
theorem dX9_holds_224 : decode cX9_holds 224 = .ok (.lload_n 3, 1) := by decide +kernel
theorem dX9_holds_225 : decode cX9_holds 225 = .ok (.lcmp, 1) := by decide +kernel
theorem dX9_holds_226 : decode cX9_holds 226 = .ok (.ifCond .ge 7, 3) := by decide +kernel
theorem dX9_holds_229 : decode cX9_holds 229 = .ok (.iconst 1, 1) := by decide +kernel
theorem dX9_holds_230 : decode cX9_holds 230 = .ok (.goto 4, 3) := by decide +kernel
theorem dX9_holds_233 : decode cX9_holds 233 = .ok (.iconst 0, 1) := by decide +kernel
theorem dX9_holds_234 : decode cX9_holds 234 = .ok (.ireturn, 1) := by decide +kernel
set_option maxRecDepth 20000 in
theorem ggX9_jump_X9_need : GoodIn wsX9_jump wsX9_need := goodIn_r _ [24, 1, 51, 52, 53, 54, 55, 56, 57, 58, 59, 60, 61, 62, 63, 64, 65, 66, 67, 68, 69, 70, 71, 72, 73, 74] (by decide +kernel) (by decide +kernel)
set_option maxRecDepth 20000 in
theorem gX9_jump_X9_need : GoodIn wsX9_jump (wsV RX9 102 RX9 yX9_need wsX9_need) := goodIn_app (goodIn_of _ (by decide +kernel)) ggX9_jump_X9_need
set_option maxRecDepth 20000 in
theorem ggX9_jump_X9_freeFrom : GoodIn wsX9_jump wsX9_freeFrom := goodIn_r _ [28, 29, 30, 31, 23, 32, 51, 52, 53, 54, 55, 56, 57, 58, 59, 60, 61, 62, 63, 64, 65, 66, 67, 68, 69, 70, 71, 72, 73, 74] (by decide +kernel) (by decide +kernel)
set_option maxRecDepth 20000 in
theorem gX9_jump_X9_freeFrom : GoodIn wsX9_jump (wsV RX9 156 RX9 yX9_freeFrom wsX9_freeFrom) := goodIn_app (goodIn_of _ (by decide +kernel)) ggX9_jump_X9_freeFrom
set_option maxRecDepth 20000 in
theorem ggX9_jump_X9_later : GoodIn wsX9_jump wsX9_later := goodIn_r _ [32] (by decide +kernel) (by decide +kernel)
set_option maxRecDepth 20000 in
theorem gX9_jump_X9_later : GoodIn wsX9_jump (va_wsS RX9 144 yX9_later wsX9_later) := goodIn_app (goodIn_of _ (by decide +kernel)) ggX9_jump_X9_later
set_option maxRecDepth 20000 in
theorem ggX9_jump_X9_holds : GoodIn wsX9_jump wsX9_holds := goodIn_r _ [36, 2, 12, 4, 37, 38, 3, 14, 39, 40, 23, 41, 42, 51, 52, 53, 54, 55, 56, 57, 58, 59, 60, 61, 62, 63, 64, 65, 66, 67, 68, 69, 70, 71, 72, 73, 74] (by decide +kernel) (by decide +kernel)
set_option maxRecDepth 20000 in
theorem gX9_jump_X9_holds : GoodIn wsX9_jump (wsV RX9 179 RX9 yX9_holds wsX9_holds) := goodIn_app (goodIn_of _ (by decide +kernel)) ggX9_jump_X9_holds
set_option maxRecDepth 20000 in
theorem ggX9_jump_X9_goOn : GoodIn wsX9_jump wsX9_goOn := goodIn_r _ [46, 19, 47, 17, 51, 52, 53, 54, 55, 56, 57, 58, 59, 60, 61, 62, 63, 64, 65, 66, 67, 68, 69, 70, 71, 72, 73, 74] (by decide +kernel) (by decide +kernel)
set_option maxRecDepth 20000 in
theorem gX9_jump_X9_goOn : GoodIn wsX9_jump (wsV RX9 184 RX9 yX9_goOn wsX9_goOn) := goodIn_app (goodIn_of _ (by decide +kernel)) ggX9_jump_X9_goOn
set_option maxRecDepth 20000 in
theorem ggX9_jump_X9_sum : GoodIn wsX9_jump wsX9_sum := goodIn_r _ [50] (by decide +kernel) (by decide +kernel)
set_option maxRecDepth 20000 in
theorem gX9_jump_X9_sum : GoodIn wsX9_jump (va_wsS RX9 56 yX9_sum wsX9_sum) := goodIn_app (goodIn_of _ (by decide +kernel)) ggX9_jump_X9_sum
theorem dX9_jump_0 : decode cX9_jump 0 = .ok (.aload_n 0, 1) := by decide +kernel
theorem dX9_jump_1 : decode cX9_jump 1 = .ok (.iconst 0, 1) := by decide +kernel
theorem dX9_jump_2 : decode cX9_jump 2 = .ok (.putfield 96, 3) := by decide +kernel
theorem dX9_jump_5 : decode cX9_jump 5 = .ok (.aload_n 0, 1) := by decide +kernel
theorem dX9_jump_6 : decode cX9_jump 6 = .ok (.getfield 68, 3) := by decide +kernel
theorem dX9_jump_9 : decode cX9_jump 9 = .ok (.iconst 2, 1) := by decide +kernel
theorem dX9_jump_10 : decode cX9_jump 10 = .ok (.if_icmp .ne 17, 3) := by decide +kernel
theorem dX9_jump_13 : decode cX9_jump 13 = .ok (.aload_n 0, 1) := by decide +kernel
theorem dX9_jump_14 : decode cX9_jump 14 = .ok (.bipush 16, 2) := by decide +kernel
theorem dX9_jump_16 : decode cX9_jump 16 = .ok (.aload_n 0, 1) := by decide +kernel
theorem dX9_jump_17 : decode cX9_jump 17 = .ok (.getfield 71, 3) := by decide +kernel
theorem dX9_jump_20 : decode cX9_jump 20 = .ok (.iadd, 1) := by decide +kernel
theorem dX9_jump_21 : decode cX9_jump 21 = .ok (.invokevirtual 102, 3) := by decide +kernel
theorem dX9_jump_24 : decode cX9_jump 24 = .ok (.goto 52, 3) := by decide +kernel
theorem dX9_jump_27 : decode cX9_jump 27 = .ok (.aload_n 0, 1) := by decide +kernel
theorem dX9_jump_28 : decode cX9_jump 28 = .ok (.getfield 68, 3) := by decide +kernel
theorem dX9_jump_31 : decode cX9_jump 31 = .ok (.iconst 3, 1) := by decide +kernel
theorem dX9_jump_32 : decode cX9_jump 32 = .ok (.if_icmp .ne 14, 3) := by decide +kernel
theorem dX9_jump_35 : decode cX9_jump 35 = .ok (.aload_n 0, 1) := by decide +kernel
theorem dX9_jump_36 : decode cX9_jump 36 = .ok (.aload_n 0, 1) := by decide +kernel
theorem dX9_jump_37 : decode cX9_jump 37 = .ok (.getfield 83, 3) := by decide +kernel
theorem dX9_jump_40 : decode cX9_jump 40 = .ok (.invokevirtual 102, 3) := by decide +kernel
theorem dX9_jump_43 : decode cX9_jump 43 = .ok (.goto 33, 3) := by decide +kernel
theorem dX9_jump_46 : decode cX9_jump 46 = .ok (.aload_n 0, 1) := by decide +kernel
theorem dX9_jump_47 : decode cX9_jump 47 = .ok (.getfield 68, 3) := by decide +kernel
theorem dX9_jump_50 : decode cX9_jump 50 = .ok (.iconst 3, 1) := by decide +kernel
theorem dX9_jump_51 : decode cX9_jump 51 = .ok (.if_icmp .le 25, 3) := by decide +kernel
theorem dX9_jump_54 : decode cX9_jump 54 = .ok (.aload_n 0, 1) := by decide +kernel
theorem dX9_jump_55 : decode cX9_jump 55 = .ok (.bipush 16, 2) := by decide +kernel
theorem dX9_jump_57 : decode cX9_jump 57 = .ok (.aload_n 0, 1) := by decide +kernel
theorem dX9_jump_58 : decode cX9_jump 58 = .ok (.getfield 71, 3) := by decide +kernel
theorem dX9_jump_61 : decode cX9_jump 61 = .ok (.iadd, 1) := by decide +kernel
theorem dX9_jump_62 : decode cX9_jump 62 = .ok (.invokevirtual 102, 3) := by decide +kernel
theorem dX9_jump_65 : decode cX9_jump 65 = .ok (.aload_n 0, 1) := by decide +kernel
theorem dX9_jump_66 : decode cX9_jump 66 = .ok (.bipush 16, 2) := by decide +kernel
theorem dX9_jump_68 : decode cX9_jump 68 = .ok (.aload_n 0, 1) := by decide +kernel
theorem dX9_jump_69 : decode cX9_jump 69 = .ok (.getfield 83, 3) := by decide +kernel
theorem dX9_jump_72 : decode cX9_jump 72 = .ok (.iadd, 1) := by decide +kernel
theorem dX9_jump_73 : decode cX9_jump 73 = .ok (.invokevirtual 102, 3) := by decide +kernel
theorem dX9_jump_76 : decode cX9_jump 76 = .ok (.aload_n 0, 1) := by decide +kernel
theorem dX9_jump_77 : decode cX9_jump 77 = .ok (.getfield 152, 3) := by decide +kernel
theorem dX9_jump_80 : decode cX9_jump 80 = .ok (.aload_n 0, 1) := by decide +kernel
theorem dX9_jump_81 : decode cX9_jump 81 = .ok (.aload_n 0, 1) := by decide +kernel
theorem dX9_jump_82 : decode cX9_jump 82 = .ok (.getfield 96, 3) := by decide +kernel
theorem dX9_jump_85 : decode cX9_jump 85 = .ok (.invokevirtual 156, 3) := by decide +kernel
theorem dX9_jump_88 : decode cX9_jump 88 = .ok (.invokestatic 144, 3) := by decide +kernel
theorem dX9_jump_91 : decode cX9_jump 91 = .ok (.lstore_n 1, 1) := by decide +kernel
theorem dX9_jump_92 : decode cX9_jump 92 = .ok (.aload_n 0, 1) := by decide +kernel
theorem dX9_jump_93 : decode cX9_jump 93 = .ok (.getfield 68, 3) := by decide +kernel
theorem dX9_jump_96 : decode cX9_jump 96 = .ok (.iconst 1, 1) := by decide +kernel
theorem dX9_jump_97 : decode cX9_jump 97 = .ok (.if_icmp .ne 16, 3) := by decide +kernel
theorem dX9_jump_100 : decode cX9_jump 100 = .ok (.lload_n 1, 1) := by decide +kernel
theorem dX9_jump_101 : decode cX9_jump 101 = .ok (.aload_n 0, 1) := by decide +kernel
theorem dX9_jump_102 : decode cX9_jump 102 = .ok (.getfield 164, 3) := by decide +kernel
theorem dX9_jump_105 : decode cX9_jump 105 = .ok (.lconst 1, 1) := by decide +kernel
theorem dX9_jump_106 : decode cX9_jump 106 = .ok (.ladd, 1) := by decide +kernel
theorem dX9_jump_107 : decode cX9_jump 107 = .ok (.invokestatic 144, 3) := by decide +kernel
theorem dX9_jump_110 : decode cX9_jump 110 = .ok (.goto 4, 3) := by decide +kernel
theorem dX9_jump_113 : decode cX9_jump 113 = .ok (.lload_n 1, 1) := by decide +kernel
theorem dX9_jump_114 : decode cX9_jump 114 = .ok (.lstore_n 1, 1) := by decide +kernel
theorem dX9_jump_115 : decode cX9_jump 115 = .ok (.aload_n 0, 1) := by decide +kernel
theorem dX9_jump_116 : decode cX9_jump 116 = .ok (.getfield 27, 3) := by decide +kernel
theorem dX9_jump_119 : decode cX9_jump 119 = .ok (.iconst 2, 1) := by decide +kernel
theorem dX9_jump_120 : decode cX9_jump 120 = .ok (.aload_n 0, 1) := by decide +kernel
theorem dX9_jump_121 : decode cX9_jump 121 = .ok (.getfield 27, 3) := by decide +kernel
theorem dX9_jump_124 : decode cX9_jump 124 = .ok (.iconst 2, 1) := by decide +kernel
theorem dX9_jump_125 : decode cX9_jump 125 = .ok (.laload, 1) := by decide +kernel
theorem dX9_jump_126 : decode cX9_jump 126 = .ok (.lload_n 1, 1) := by decide +kernel
theorem dX9_jump_127 : decode cX9_jump 127 = .ok (.ladd, 1) := by decide +kernel
theorem dX9_jump_128 : decode cX9_jump 128 = .ok (.aload_n 0, 1) := by decide +kernel
theorem dX9_jump_129 : decode cX9_jump 129 = .ok (.getfield 152, 3) := by decide +kernel
theorem dX9_jump_132 : decode cX9_jump 132 = .ok (.lsub, 1) := by decide +kernel
theorem dX9_jump_133 : decode cX9_jump 133 = .ok (.lastore, 1) := by decide +kernel
theorem dX9_jump_134 : decode cX9_jump 134 = .ok (.aload_n 0, 1) := by decide +kernel
theorem dX9_jump_135 : decode cX9_jump 135 = .ok (.aload_n 0, 1) := by decide +kernel
theorem dX9_jump_136 : decode cX9_jump 136 = .ok (.getfield 167, 3) := by decide +kernel
theorem dX9_jump_139 : decode cX9_jump 139 = .ok (.lload_n 1, 1) := by decide +kernel
theorem dX9_jump_140 : decode cX9_jump 140 = .ok (.invokestatic 144, 3) := by decide +kernel
theorem dX9_jump_143 : decode cX9_jump 143 = .ok (.putfield 167, 3) := by decide +kernel
theorem dX9_jump_146 : decode cX9_jump 146 = .ok (.aload_n 0, 1) := by decide +kernel
theorem dX9_jump_147 : decode cX9_jump 147 = .ok (.getfield 23, 3) := by decide +kernel
theorem dX9_jump_150 : decode cX9_jump 150 = .ok (.bipush 6, 2) := by decide +kernel
theorem dX9_jump_152 : decode cX9_jump 152 = .ok (.dup2, 1) := by decide +kernel
theorem dX9_jump_153 : decode cX9_jump 153 = .ok (.iaload, 1) := by decide +kernel
theorem dX9_jump_154 : decode cX9_jump 154 = .ok (.iconst 1, 1) := by decide +kernel
theorem dX9_jump_155 : decode cX9_jump 155 = .ok (.iadd, 1) := by decide +kernel
theorem dX9_jump_156 : decode cX9_jump 156 = .ok (.iastore, 1) := by decide +kernel
theorem dX9_jump_157 : decode cX9_jump 157 = .ok (.aload_n 0, 1) := by decide +kernel
theorem dX9_jump_158 : decode cX9_jump 158 = .ok (.invokevirtual 179, 3) := by decide +kernel
theorem dX9_jump_161 : decode cX9_jump 161 = .ok (.istore_n 3, 1) := by decide +kernel
theorem dX9_jump_162 : decode cX9_jump 162 = .ok (.aload_n 0, 1) := by decide +kernel
theorem dX9_jump_163 : decode cX9_jump 163 = .ok (.lload_n 1, 1) := by decide +kernel
theorem dX9_jump_164 : decode cX9_jump 164 = .ok (.iload_n 3, 1) := by decide +kernel
theorem dX9_jump_165 : decode cX9_jump 165 = .ok (.ifCond .eq 9, 3) := by decide +kernel
theorem dX9_jump_168 : decode cX9_jump 168 = .ok (.ldc2_w 160, 3) := by decide +kernel
theorem dX9_jump_171 : decode cX9_jump 171 = .ok (.goto 6, 3) := by decide +kernel
theorem dX9_jump_174 : decode cX9_jump 174 = .ok (.ldc2_w 182, 3) := by decide +kernel
theorem dX9_jump_177 : decode cX9_jump 177 = .ok (.ladd, 1) := by decide +kernel
theorem dX9_jump_178 : decode cX9_jump 178 = .ok (.putfield 152, 3) := by decide +kernel
theorem dX9_jump_181 : decode cX9_jump 181 = .ok (.iload_n 3, 1) := by decide +kernel
theorem dX9_jump_182 : decode cX9_jump 182 = .ok (.ifCond .ne 8, 3) := by decide +kernel
theorem dX9_jump_185 : decode cX9_jump 185 = .ok (.aload_n 0, 1) := by decide +kernel
theorem dX9_jump_186 : decode cX9_jump 186 = .ok (.invokevirtual 184, 3) := by decide +kernel
theorem dX9_jump_189 : decode cX9_jump 189 = .ok (.return_, 1) := by decide +kernel
theorem dX9_jump_190 : decode cX9_jump 190 = .ok (.aload_n 0, 1) := by decide +kernel
theorem dX9_jump_191 : decode cX9_jump 191 = .ok (.getfield 23, 3) := by decide +kernel
theorem dX9_jump_194 : decode cX9_jump 194 = .ok (.bipush 7, 2) := by decide +kernel
theorem dX9_jump_196 : decode cX9_jump 196 = .ok (.dup2, 1) := by decide +kernel
theorem dX9_jump_197 : decode cX9_jump 197 = .ok (.iaload, 1) := by decide +kernel
theorem dX9_jump_198 : decode cX9_jump 198 = .ok (.iconst 1, 1) := by decide +kernel
theorem dX9_jump_199 : decode cX9_jump 199 = .ok (.iadd, 1) := by decide +kernel
theorem dX9_jump_200 : decode cX9_jump 200 = .ok (.iastore, 1) := by decide +kernel
theorem dX9_jump_201 : decode cX9_jump 201 = .ok (.aload_n 0, 1) := by decide +kernel
theorem dX9_jump_202 : decode cX9_jump 202 = .ok (.getfield 68, 3) := by decide +kernel
theorem dX9_jump_205 : decode cX9_jump 205 = .ok (.iconst 2, 1) := by decide +kernel
theorem dX9_jump_206 : decode cX9_jump 206 = .ok (.if_icmp .ne 30, 3) := by decide +kernel
theorem dX9_jump_209 : decode cX9_jump 209 = .ok (.aload_n 0, 1) := by decide +kernel
theorem dX9_jump_210 : decode cX9_jump 210 = .ok (.getfield 16, 3) := by decide +kernel
theorem dX9_jump_213 : decode cX9_jump 213 = .ok (.bipush 16, 2) := by decide +kernel
theorem dX9_jump_215 : decode cX9_jump 215 = .ok (.aload_n 0, 1) := by decide +kernel
theorem dX9_jump_216 : decode cX9_jump 216 = .ok (.getfield 71, 3) := by decide +kernel
theorem dX9_jump_219 : decode cX9_jump 219 = .ok (.iadd, 1) := by decide +kernel
theorem dX9_jump_220 : decode cX9_jump 220 = .ok (.laload, 1) := by decide +kernel
theorem dX9_jump_221 : decode cX9_jump 221 = .ok (.aload_n 0, 1) := by decide +kernel
theorem dX9_jump_222 : decode cX9_jump 222 = .ok (.getfield 93, 3) := by decide +kernel
theorem dX9_jump_225 : decode cX9_jump 225 = .ok (.i2l, 1) := by decide +kernel
theorem dX9_jump_226 : decode cX9_jump 226 = .ok (.ldc2_w 44, 3) := by decide +kernel
theorem dX9_jump_229 : decode cX9_jump 229 = .ok (.invokestatic 56, 3) := by decide +kernel
theorem dX9_jump_232 : decode cX9_jump 232 = .ok (.l2i, 1) := by decide +kernel
theorem dX9_jump_233 : decode cX9_jump 233 = .ok (.goto 7, 3) := by decide +kernel
theorem dX9_jump_236 : decode cX9_jump 236 = .ok (.aload_n 0, 1) := by decide +kernel
theorem dX9_jump_237 : decode cX9_jump 237 = .ok (.getfield 93, 3) := by decide +kernel
theorem dX9_jump_240 : decode cX9_jump 240 = .ok (.istore 4, 2) := by decide +kernel
theorem dX9_jump_242 : decode cX9_jump 242 = .ok (.aload_n 0, 1) := by decide +kernel
theorem dX9_jump_243 : decode cX9_jump 243 = .ok (.getfield 68, 3) := by decide +kernel
theorem dX9_jump_246 : decode cX9_jump 246 = .ok (.iconst 1, 1) := by decide +kernel
theorem dX9_jump_247 : decode cX9_jump 247 = .ok (.if_icmp .ne 62, 3) := by decide +kernel
theorem dX9_jump_250 : decode cX9_jump 250 = .ok (.aload_n 0, 1) := by decide +kernel
theorem dX9_jump_251 : decode cX9_jump 251 = .ok (.getfield 93, 3) := by decide +kernel
theorem dX9_jump_254 : decode cX9_jump 254 = .ok (.sipush 512, 3) := by decide +kernel
theorem dX9_jump_257 : decode cX9_jump 257 = .ok (.if_icmp .ge 44, 3) := by decide +kernel
theorem dX9_jump_260 : decode cX9_jump 260 = .ok (.aload_n 0, 1) := by decide +kernel
theorem dX9_jump_261 : decode cX9_jump 261 = .ok (.getfield 7, 3) := by decide +kernel
theorem dX9_jump_264 : decode cX9_jump 264 = .ok (.aload_n 0, 1) := by decide +kernel
theorem dX9_jump_265 : decode cX9_jump 265 = .ok (.getfield 93, 3) := by decide +kernel
theorem dX9_jump_268 : decode cX9_jump 268 = .ok (.ldc2_w 187, 3) := by decide +kernel
theorem dX9_jump_271 : decode cX9_jump 271 = .ok (.aload_n 0, 1) := by decide +kernel
theorem dX9_jump_272 : decode cX9_jump 272 = .ok (.getfield 50, 3) := by decide +kernel
theorem dX9_jump_275 : decode cX9_jump 275 = .ok (.iconst 1, 1) := by decide +kernel
theorem dX9_jump_276 : decode cX9_jump 276 = .ok (.iadd, 1) := by decide +kernel
theorem dX9_jump_277 : decode cX9_jump 277 = .ok (.i2l, 1) := by decide +kernel
theorem dX9_jump_278 : decode cX9_jump 278 = .ok (.bipush 30, 2) := by decide +kernel
theorem dX9_jump_280 : decode cX9_jump 280 = .ok (.lshl, 1) := by decide +kernel
theorem dX9_jump_281 : decode cX9_jump 281 = .ok (.lor, 1) := by decide +kernel
theorem dX9_jump_282 : decode cX9_jump 282 = .ok (.lastore, 1) := by decide +kernel
theorem dX9_jump_283 : decode cX9_jump 283 = .ok (.aload_n 0, 1) := by decide +kernel
theorem dX9_jump_284 : decode cX9_jump 284 = .ok (.getfield 13, 3) := by decide +kernel
theorem dX9_jump_287 : decode cX9_jump 287 = .ok (.aload_n 0, 1) := by decide +kernel
theorem dX9_jump_288 : decode cX9_jump 288 = .ok (.getfield 93, 3) := by decide +kernel
theorem dX9_jump_291 : decode cX9_jump 291 = .ok (.aload_n 0, 1) := by decide +kernel
theorem dX9_jump_292 : decode cX9_jump 292 = .ok (.getfield 7, 3) := by decide +kernel
theorem dX9_jump_295 : decode cX9_jump 295 = .ok (.aload_n 0, 1) := by decide +kernel
theorem dX9_jump_296 : decode cX9_jump 296 = .ok (.getfield 93, 3) := by decide +kernel
theorem dX9_jump_299 : decode cX9_jump 299 = .ok (.laload, 1) := by decide +kernel
theorem dX9_jump_300 : decode cX9_jump 300 = .ok (.lastore, 1) := by decide +kernel
theorem dX9_jump_301 : decode cX9_jump 301 = .ok (.aload_n 0, 1) := by decide +kernel
theorem dX9_jump_302 : decode cX9_jump 302 = .ok (.getfield 93, 3) := by decide +kernel
theorem dX9_jump_305 : decode cX9_jump 305 = .ok (.iconst 1, 1) := by decide +kernel
theorem dX9_jump_306 : decode cX9_jump 306 = .ok (.iadd, 1) := by decide +kernel
theorem dX9_jump_307 : decode cX9_jump 307 = .ok (.istore 4, 2) := by decide +kernel
theorem dX9_jump_309 : decode cX9_jump 309 = .ok (.aload_n 0, 1) := by decide +kernel
theorem dX9_jump_310 : decode cX9_jump 310 = .ok (.iload 4, 2) := by decide +kernel
theorem dX9_jump_312 : decode cX9_jump 312 = .ok (.putfield 50, 3) := by decide +kernel
theorem dX9_jump_315 : decode cX9_jump 315 = .ok (.aload_n 0, 1) := by decide +kernel
theorem dX9_jump_316 : decode cX9_jump 316 = .ok (.iconst 0, 1) := by decide +kernel
theorem dX9_jump_317 : decode cX9_jump 317 = .ok (.putfield 53, 3) := by decide +kernel
theorem dX9_jump_320 : decode cX9_jump 320 = .ok (.return_, 1) := by decide +kernel
theorem dX9_goOn_0 : decode cX9_goOn 0 = .ok (.aload_n 0, 1) := by decide +kernel
theorem dX9_goOn_1 : decode cX9_goOn 1 = .ok (.aload_n 0, 1) := by decide +kernel
theorem dX9_goOn_2 : decode cX9_goOn 2 = .ok (.getfield 53, 3) := by decide +kernel
theorem dX9_goOn_5 : decode cX9_goOn 5 = .ok (.aload_n 0, 1) := by decide +kernel
theorem dX9_goOn_6 : decode cX9_goOn 6 = .ok (.getfield 74, 3) := by decide +kernel
theorem dX9_goOn_9 : decode cX9_goOn 9 = .ok (.iadd, 1) := by decide +kernel
theorem dX9_goOn_10 : decode cX9_goOn 10 = .ok (.putfield 53, 3) := by decide +kernel
theorem dX9_goOn_13 : decode cX9_goOn 13 = .ok (.aload_n 0, 1) := by decide +kernel
theorem dX9_goOn_14 : decode cX9_goOn 14 = .ok (.getfield 53, 3) := by decide +kernel
theorem dX9_goOn_17 : decode cX9_goOn 17 = .ok (.iconst 3, 1) := by decide +kernel
theorem dX9_goOn_18 : decode cX9_goOn 18 = .ok (.if_icmp .le 18, 3) := by decide +kernel
theorem dX9_goOn_21 : decode cX9_goOn 21 = .ok (.aload_n 0, 1) := by decide +kernel
theorem dX9_goOn_22 : decode cX9_goOn 22 = .ok (.dup, 1) := by decide +kernel
theorem dX9_goOn_23 : decode cX9_goOn 23 = .ok (.getfield 50, 3) := by decide +kernel
theorem dX9_goOn_26 : decode cX9_goOn 26 = .ok (.iconst 1, 1) := by decide +kernel
theorem dX9_goOn_27 : decode cX9_goOn 27 = .ok (.iadd, 1) := by decide +kernel
theorem dX9_goOn_28 : decode cX9_goOn 28 = .ok (.putfield 50, 3) := by decide +kernel
theorem dX9_goOn_31 : decode cX9_goOn 31 = .ok (.aload_n 0, 1) := by decide +kernel
theorem dX9_goOn_32 : decode cX9_goOn 32 = .ok (.iconst 0, 1) := by decide +kernel
theorem dX9_goOn_33 : decode cX9_goOn 33 = .ok (.putfield 53, 3) := by decide +kernel
theorem dX9_goOn_36 : decode cX9_goOn 36 = .ok (.return_, 1) := by decide +kernel
theorem dX9_halt_0 : decode cX9_halt 0 = .ok (.aload_n 0, 1) := by decide +kernel
theorem dX9_halt_1 : decode cX9_halt 1 = .ok (.iload_n 1, 1) := by decide +kernel
theorem dX9_halt_2 : decode cX9_halt 2 = .ok (.putfield 19, 3) := by decide +kernel
theorem dX9_halt_5 : decode cX9_halt 5 = .ok (.return_, 1) := by decide +kernel
set_option maxRecDepth 20000 in
theorem ggX9_one_X9_halt : GoodIn wsX9_one wsX9_halt := goodIn_r _ [9, 10, 145, 146, 147, 148, 149, 150, 151, 152, 153, 154, 155, 156, 157, 158, 159, 160, 161, 162, 163, 164, 165, 166, 167, 168] (by decide +kernel) (by decide +kernel)
set_option maxRecDepth 20000 in
theorem gX9_one_X9_halt : GoodIn wsX9_one (wsV RX9 189 RX9 yX9_halt wsX9_halt) := goodIn_app (goodIn_of _ (by decide +kernel)) ggX9_one_X9_halt
set_option maxRecDepth 20000 in
theorem ggX9_one_X9_take : GoodIn wsX9_one wsX9_take := goodIn_r _ [14, 15, 2, 16, 17, 18, 19, 20, 21, 22, 23, 8, 24, 25, 1, 26, 27, 28, 29, 145, 146, 147, 148, 149, 150, 151, 152, 153, 154, 155, 156, 157, 158, 159, 160, 161, 162, 163, 164, 165, 166, 167, 168] (by decide +kernel) (by decide +kernel)
set_option maxRecDepth 20000 in
theorem gX9_one_X9_take : GoodIn wsX9_one (wsV RX9 192 RX9 yX9_take wsX9_take) := goodIn_app (goodIn_of _ (by decide +kernel)) ggX9_one_X9_take
set_option maxRecDepth 20000 in
theorem ggX9_one_X9_isUnknown : GoodIn wsX9_one wsX9_isUnknown := goodIn_r _ [33, 2, 16, 19, 15, 145, 146, 147, 148, 149, 150, 151, 152, 153, 154, 155, 156, 157, 158, 159, 160, 161, 162, 163, 164, 165, 166, 167, 168] (by decide +kernel) (by decide +kernel)
set_option maxRecDepth 20000 in
theorem gX9_one_X9_isUnknown : GoodIn wsX9_one (wsV RX9 195 RX9 yX9_isUnknown wsX9_isUnknown) := goodIn_app (goodIn_of _ (by decide +kernel)) ggX9_one_X9_isUnknown
set_option maxRecDepth 20000 in
theorem ggX9_one_X9_jump : GoodIn wsX9_one wsX9_jump := goodIn_r _ [37, 38, 2, 16, 17, 4, 39, 40, 3, 41, 42, 43, 44, 20, 45, 46, 47, 1, 25, 15, 48, 49, 50, 8, 51, 52, 53, 54, 55, 56, 57, 58, 59, 60, 61, 62, 63, 64, 65, 66, 67, 68, 69, 70, 71, 72, 73, 19, 74, 75, 76, 145, 146, 147, 148, 149, 150, 151, 152, 153, 154, 155, 156, 157, 158, 159, 160, 161, 162, 163, 164, 165, 166, 167, 168] (by decide +kernel) (by decide +kernel)
set_option maxRecDepth 20000 in
theorem gX9_one_X9_jump : GoodIn wsX9_one (wsV RX9 198 RX9 yX9_jump wsX9_jump) := goodIn_app (goodIn_of _ (by decide +kernel)) ggX9_one_X9_jump
set_option maxRecDepth 20000 in
theorem ggX9_one_X9_later : GoodIn wsX9_one wsX9_later := goodIn_r _ [59] (by decide +kernel) (by decide +kernel)
set_option maxRecDepth 20000 in
theorem gX9_one_X9_later : GoodIn wsX9_one (va_wsS RX9 144 yX9_later wsX9_later) := goodIn_app (goodIn_of _ (by decide +kernel)) ggX9_one_X9_later
set_option maxRecDepth 20000 in
theorem ggX9_one_X9_goOn : GoodIn wsX9_one wsX9_goOn := goodIn_r _ [73, 15, 19, 1, 145, 146, 147, 148, 149, 150, 151, 152, 153, 154, 155, 156, 157, 158, 159, 160, 161, 162, 163, 164, 165, 166, 167, 168] (by decide +kernel) (by decide +kernel)
set_option maxRecDepth 20000 in
theorem gX9_one_X9_goOn : GoodIn wsX9_one (wsV RX9 184 RX9 yX9_goOn wsX9_goOn) := goodIn_app (goodIn_of _ (by decide +kernel)) ggX9_one_X9_goOn
set_option maxRecDepth 20000 in
theorem ggX9_one_X9_find : GoodIn wsX9_one wsX9_find := goodIn_r _ [80, 38, 81, 2, 17, 18, 16, 48, 49, 50, 8, 51, 82, 83, 84, 85, 86, 87, 88, 89, 145, 146, 147, 148, 149, 150, 151, 152, 153, 154, 155, 156, 157, 158, 159, 160, 161, 162, 163, 164, 165, 166, 167, 168] (by decide +kernel) (by decide +kernel)
set_option maxRecDepth 20000 in
theorem gX9_one_X9_find : GoodIn wsX9_one (wsV RX9 201 RX9 yX9_find wsX9_find) := goodIn_app (goodIn_of _ (by decide +kernel)) ggX9_one_X9_find
set_option maxRecDepth 20000 in
theorem ggX9_one_X9_board : GoodIn wsX9_one wsX9_board := goodIn_r _ [93, 94, 4, 81, 40, 38, 42, 95, 96, 39, 56, 3, 16, 97, 98, 41, 19, 99, 100, 101, 8, 102, 2, 52, 53, 54, 55, 57, 58, 59, 86, 87, 88, 89, 145, 146, 147, 148, 149, 150, 151, 152, 153, 154, 155, 156, 157, 158, 159, 160, 161, 162, 163, 164, 165, 166, 167, 168] (by decide +kernel) (by decide +kernel)
set_option maxRecDepth 20000 in
theorem gX9_one_X9_board : GoodIn wsX9_one (wsV RX9 204 RX9 yX9_board wsX9_board) := goodIn_app (goodIn_of _ (by decide +kernel)) ggX9_one_X9_board
set_option maxRecDepth 20000 in
theorem ggX9_one_X9_act : GoodIn wsX9_one wsX9_act := goodIn_r _ [106, 2, 16, 107, 46, 44, 108, 109, 110, 8, 111, 17, 18, 64, 112, 113, 114, 115, 116, 117, 118, 119, 120, 121, 122, 123, 124, 125, 126, 127, 128, 74, 75, 76, 129, 130, 131, 132, 133, 134, 135, 45, 136, 137, 138, 139, 20, 140, 141, 142, 143, 144, 145, 146, 147, 148, 149, 150, 151, 152, 153, 154, 155, 156, 157, 158, 159, 160, 161, 162, 163, 164, 165, 166, 167, 168] (by decide +kernel) (by decide +kernel)
set_option maxRecDepth 20000 in
theorem gX9_one_X9_act : GoodIn wsX9_one (wsV RX9 207 RX9 yX9_act wsX9_act) := goodIn_app (goodIn_of _ (by decide +kernel)) ggX9_one_X9_act
theorem dX9_one_0 : decode cX9_one 0 = .ok (.aload_n 0, 1) := by decide +kernel
theorem dX9_one_1 : decode cX9_one 1 = .ok (.getfield 50, 3) := by decide +kernel
theorem dX9_one_4 : decode cX9_one 4 = .ok (.ifCond .lt 13, 3) := by decide +kernel
theorem dX9_one_7 : decode cX9_one 7 = .ok (.aload_n 0, 1) := by decide +kernel
theorem dX9_one_8 : decode cX9_one 8 = .ok (.getfield 50, 3) := by decide +kernel
theorem dX9_one_11 : decode cX9_one 11 = .ok (.sipush 512, 3) := by decide +kernel
theorem dX9_one_14 : decode cX9_one 14 = .ok (.if_icmp .lt 10, 3) := by decide +kernel
theorem dX9_one_17 : decode cX9_one 17 = .ok (.aload_n 0, 1) := by decide +kernel
theorem dX9_one_18 : decode cX9_one 18 = .ok (.iconst 2, 1) := by decide +kernel
theorem dX9_one_19 : decode cX9_one 19 = .ok (.invokevirtual 189, 3) := by decide +kernel
theorem dX9_one_22 : decode cX9_one 22 = .ok (.iconst 0, 1) := by decide +kernel
theorem dX9_one_23 : decode cX9_one 23 = .ok (.ireturn, 1) := by decide +kernel
theorem dX9_one_24 : decode cX9_one 24 = .ok (.aload_n 0, 1) := by decide +kernel
theorem dX9_one_25 : decode cX9_one 25 = .ok (.invokevirtual 192, 3) := by decide +kernel
theorem dX9_one_28 : decode cX9_one 28 = .ok (.aload_n 0, 1) := by decide +kernel
theorem dX9_one_29 : decode cX9_one 29 = .ok (.getfield 68, 3) := by decide +kernel
theorem dX9_one_32 : decode cX9_one 32 = .ok (.ifCond .eq 10, 3) := by decide +kernel
theorem dX9_one_35 : decode cX9_one 35 = .ok (.aload_n 0, 1) := by decide +kernel
theorem dX9_one_36 : decode cX9_one 36 = .ok (.invokevirtual 195, 3) := by decide +kernel
theorem dX9_one_39 : decode cX9_one 39 = .ok (.ifCond .eq 21, 3) := by decide +kernel
theorem dX9_one_42 : decode cX9_one 42 = .ok (.aload_n 0, 1) := by decide +kernel
theorem dX9_one_43 : decode cX9_one 43 = .ok (.aload_n 0, 1) := by decide +kernel
theorem dX9_one_44 : decode cX9_one 44 = .ok (.getfield 68, 3) := by decide +kernel
theorem dX9_one_47 : decode cX9_one 47 = .ok (.ifCond .ne 7, 3) := by decide +kernel
theorem dX9_one_50 : decode cX9_one 50 = .ok (.iconst 0, 1) := by decide +kernel
theorem dX9_one_51 : decode cX9_one 51 = .ok (.goto 4, 3) := by decide +kernel
theorem dX9_one_54 : decode cX9_one 54 = .ok (.iconst 1, 1) := by decide +kernel
theorem dX9_one_55 : decode cX9_one 55 = .ok (.invokevirtual 189, 3) := by decide +kernel
theorem dX9_one_58 : decode cX9_one 58 = .ok (.iconst 0, 1) := by decide +kernel
theorem dX9_one_59 : decode cX9_one 59 = .ok (.ireturn, 1) := by decide +kernel
theorem dX9_one_60 : decode cX9_one 60 = .ok (.aload_n 0, 1) := by decide +kernel
theorem dX9_one_61 : decode cX9_one 61 = .ok (.getfield 68, 3) := by decide +kernel
theorem dX9_one_64 : decode cX9_one 64 = .ok (.bipush 8, 2) := by decide +kernel
theorem dX9_one_66 : decode cX9_one 66 = .ok (.if_icmp .ge 10, 3) := by decide +kernel
theorem dX9_one_69 : decode cX9_one 69 = .ok (.aload_n 0, 1) := by decide +kernel
theorem dX9_one_70 : decode cX9_one 70 = .ok (.invokevirtual 198, 3) := by decide +kernel
theorem dX9_one_73 : decode cX9_one 73 = .ok (.goto 60, 3) := by decide +kernel
theorem dX9_one_76 : decode cX9_one 76 = .ok (.aload_n 0, 1) := by decide +kernel
theorem dX9_one_77 : decode cX9_one 77 = .ok (.getfield 68, 3) := by decide +kernel
theorem dX9_one_80 : decode cX9_one 80 = .ok (.bipush 38, 2) := by decide +kernel
theorem dX9_one_82 : decode cX9_one 82 = .ok (.if_icmp .ne 35, 3) := by decide +kernel
theorem dX9_one_85 : decode cX9_one 85 = .ok (.aload_n 0, 1) := by decide +kernel
theorem dX9_one_86 : decode cX9_one 86 = .ok (.aload_n 0, 1) := by decide +kernel
theorem dX9_one_87 : decode cX9_one 87 = .ok (.getfield 167, 3) := by decide +kernel
theorem dX9_one_90 : decode cX9_one 90 = .ok (.aload_n 0, 1) := by decide +kernel
theorem dX9_one_91 : decode cX9_one 91 = .ok (.getfield 152, 3) := by decide +kernel
theorem dX9_one_94 : decode cX9_one 94 = .ok (.invokestatic 144, 3) := by decide +kernel
theorem dX9_one_97 : decode cX9_one 97 = .ok (.putfield 167, 3) := by decide +kernel
theorem dX9_one_100 : decode cX9_one 100 = .ok (.aload_n 0, 1) := by decide +kernel
theorem dX9_one_101 : decode cX9_one 101 = .ok (.dup, 1) := by decide +kernel
theorem dX9_one_102 : decode cX9_one 102 = .ok (.getfield 152, 3) := by decide +kernel
theorem dX9_one_105 : decode cX9_one 105 = .ok (.lconst 1, 1) := by decide +kernel
theorem dX9_one_106 : decode cX9_one 106 = .ok (.ladd, 1) := by decide +kernel
theorem dX9_one_107 : decode cX9_one 107 = .ok (.putfield 152, 3) := by decide +kernel
theorem dX9_one_110 : decode cX9_one 110 = .ok (.aload_n 0, 1) := by decide +kernel
theorem dX9_one_111 : decode cX9_one 111 = .ok (.invokevirtual 184, 3) := by decide +kernel
theorem dX9_one_114 : decode cX9_one 114 = .ok (.goto 19, 3) := by decide +kernel
theorem dX9_one_117 : decode cX9_one 117 = .ok (.aload_n 0, 1) := by decide +kernel
theorem dX9_one_118 : decode cX9_one 118 = .ok (.invokevirtual 201, 3) := by decide +kernel
theorem dX9_one_121 : decode cX9_one 121 = .ok (.aload_n 0, 1) := by decide +kernel
theorem dX9_one_122 : decode cX9_one 122 = .ok (.invokevirtual 204, 3) := by decide +kernel
theorem dX9_one_125 : decode cX9_one 125 = .ok (.aload_n 0, 1) := by decide +kernel
theorem dX9_one_126 : decode cX9_one 126 = .ok (.invokevirtual 207, 3) := by decide +kernel
theorem dX9_one_129 : decode cX9_one 129 = .ok (.aload_n 0, 1) := by decide +kernel
theorem dX9_one_130 : decode cX9_one 130 = .ok (.invokevirtual 184, 3) := by decide +kernel
theorem dX9_one_133 : decode cX9_one 133 = .ok (.aload_n 0, 1) := by decide +kernel
theorem dX9_one_134 : decode cX9_one 134 = .ok (.getfield 50, 3) := by decide +kernel
theorem dX9_one_137 : decode cX9_one 137 = .ok (.sipush 512, 3) := by decide +kernel
theorem dX9_one_140 : decode cX9_one 140 = .ok (.if_icmp .lt 8, 3) := by decide +kernel
theorem dX9_one_143 : decode cX9_one 143 = .ok (.aload_n 0, 1) := by decide +kernel
theorem dX9_one_144 : decode cX9_one 144 = .ok (.iconst 2, 1) := by decide +kernel
theorem dX9_one_145 : decode cX9_one 145 = .ok (.invokevirtual 189, 3) := by decide +kernel
theorem dX9_one_148 : decode cX9_one 148 = .ok (.iconst 1, 1) := by decide +kernel
theorem dX9_one_149 : decode cX9_one 149 = .ok (.ireturn, 1) := by decide +kernel
set_option maxRecDepth 20000 in
theorem ggX9_run_X9_one : GoodIn wsX9_run wsX9_one := goodIn_r _ [16, 17, 18, 9, 8, 19, 20, 21, 15, 22, 10, 23, 24, 25, 26, 27, 28, 29, 30, 31, 32, 33, 34, 35, 36, 2, 37, 38, 39, 40, 41, 42, 43, 44, 45, 46, 47, 48, 49, 7, 50, 51, 52, 53, 54, 55, 3, 56, 57, 58, 59, 60, 61, 62, 63, 64, 4, 65, 66, 67, 68, 69, 70, 71, 72, 73, 74, 75, 76, 77, 78, 79, 80, 81, 82, 83, 84, 85, 86, 87, 88, 89, 90, 91, 92, 93, 94, 95, 96, 97, 98, 99, 100, 101, 6, 102, 5, 103, 104, 105, 106, 107, 108, 109, 110, 111, 112, 113, 114, 115, 116, 117, 118, 119, 120, 121, 122, 123, 124, 125, 126, 127, 128, 129, 130, 131, 132, 133, 134, 135, 136, 137, 138, 139, 140, 141, 142, 143, 144, 145, 146, 147, 148, 149, 150, 151, 152, 153, 154, 155, 156, 157, 158, 159, 160, 161, 162, 163, 164, 165, 166, 167, 168, 169, 170, 171, 172, 173, 174] (by decide +kernel) (by decide +kernel)
set_option maxRecDepth 20000 in
theorem gX9_run_X9_one : GoodIn wsX9_run (wsV RX9 210 RX9 yX9_one wsX9_one) := goodIn_app (goodIn_of _ (by decide +kernel)) ggX9_run_X9_one
theorem dX9_run_0 : decode cX9_run 0 = .ok (.aload_n 0, 1) := by decide +kernel
theorem dX9_run_1 : decode cX9_run 1 = .ok (.iload_n 1, 1) := by decide +kernel
theorem dX9_run_2 : decode cX9_run 2 = .ok (.ifCond .lt 10, 3) := by decide +kernel
theorem dX9_run_5 : decode cX9_run 5 = .ok (.iload_n 1, 1) := by decide +kernel
theorem dX9_run_6 : decode cX9_run 6 = .ok (.sipush 2000, 3) := by decide +kernel
theorem dX9_run_9 : decode cX9_run 9 = .ok (.if_icmp .le 7, 3) := by decide +kernel
theorem dX9_run_12 : decode cX9_run 12 = .ok (.iconst 1, 1) := by decide +kernel
theorem dX9_run_13 : decode cX9_run 13 = .ok (.goto 4, 3) := by decide +kernel
theorem dX9_run_16 : decode cX9_run 16 = .ok (.iconst 0, 1) := by decide +kernel
theorem dX9_run_17 : decode cX9_run 17 = .ok (.putfield 39, 3) := by decide +kernel
theorem dX9_run_20 : decode cX9_run 20 = .ok (.aload_n 0, 1) := by decide +kernel
theorem dX9_run_21 : decode cX9_run 21 = .ok (.getfield 39, 3) := by decide +kernel
theorem dX9_run_24 : decode cX9_run 24 = .ok (.ifCond .le 5, 3) := by decide +kernel
theorem dX9_run_27 : decode cX9_run 27 = .ok (.iconst 0, 1) := by decide +kernel
theorem dX9_run_28 : decode cX9_run 28 = .ok (.ireturn, 1) := by decide +kernel
theorem dX9_run_29 : decode cX9_run 29 = .ok (.iconst 0, 1) := by decide +kernel
theorem dX9_run_30 : decode cX9_run 30 = .ok (.istore_n 2, 1) := by decide +kernel
theorem dX9_run_31 : decode cX9_run 31 = .ok (.iload_n 2, 1) := by decide +kernel
theorem dX9_run_32 : decode cX9_run 32 = .ok (.sipush 512, 3) := by decide +kernel
theorem dX9_run_35 : decode cX9_run 35 = .ok (.if_icmp .ge 21, 3) := by decide +kernel
theorem dX9_run_38 : decode cX9_run 38 = .ok (.aload_n 0, 1) := by decide +kernel
theorem dX9_run_39 : decode cX9_run 39 = .ok (.getfield 13, 3) := by decide +kernel
theorem dX9_run_42 : decode cX9_run 42 = .ok (.iload_n 2, 1) := by decide +kernel
theorem dX9_run_43 : decode cX9_run 43 = .ok (.aload_n 0, 1) := by decide +kernel
theorem dX9_run_44 : decode cX9_run 44 = .ok (.getfield 7, 3) := by decide +kernel
theorem dX9_run_47 : decode cX9_run 47 = .ok (.iload_n 2, 1) := by decide +kernel
theorem dX9_run_48 : decode cX9_run 48 = .ok (.laload, 1) := by decide +kernel
theorem dX9_run_49 : decode cX9_run 49 = .ok (.lastore, 1) := by decide +kernel
theorem dX9_run_50 : decode cX9_run 50 = .ok (.iinc 2 1, 3) := by decide +kernel
theorem dX9_run_53 : decode cX9_run 53 = .ok (.goto (-22), 3) := by decide +kernel
theorem dX9_run_56 : decode cX9_run 56 = .ok (.iconst 0, 1) := by decide +kernel
theorem dX9_run_57 : decode cX9_run 57 = .ok (.istore_n 2, 1) := by decide +kernel
theorem dX9_run_58 : decode cX9_run 58 = .ok (.iload_n 2, 1) := by decide +kernel
theorem dX9_run_59 : decode cX9_run 59 = .ok (.bipush 24, 2) := by decide +kernel
theorem dX9_run_61 : decode cX9_run 61 = .ok (.if_icmp .ge 23, 3) := by decide +kernel
theorem dX9_run_64 : decode cX9_run 64 = .ok (.aload_n 0, 1) := by decide +kernel
theorem dX9_run_65 : decode cX9_run 65 = .ok (.getfield 30, 3) := by decide +kernel
theorem dX9_run_68 : decode cX9_run 68 = .ok (.iload_n 2, 1) := by decide +kernel
theorem dX9_run_69 : decode cX9_run 69 = .ok (.lconst 0, 1) := by decide +kernel
theorem dX9_run_70 : decode cX9_run 70 = .ok (.lastore, 1) := by decide +kernel
theorem dX9_run_71 : decode cX9_run 71 = .ok (.aload_n 0, 1) := by decide +kernel
theorem dX9_run_72 : decode cX9_run 72 = .ok (.getfield 33, 3) := by decide +kernel
theorem dX9_run_75 : decode cX9_run 75 = .ok (.iload_n 2, 1) := by decide +kernel
theorem dX9_run_76 : decode cX9_run 76 = .ok (.lconst 0, 1) := by decide +kernel
theorem dX9_run_77 : decode cX9_run 77 = .ok (.lastore, 1) := by decide +kernel
theorem dX9_run_78 : decode cX9_run 78 = .ok (.iinc 2 1, 3) := by decide +kernel
theorem dX9_run_81 : decode cX9_run 81 = .ok (.goto (-23), 3) := by decide +kernel
theorem dX9_run_84 : decode cX9_run 84 = .ok (.iconst 0, 1) := by decide +kernel
theorem dX9_run_85 : decode cX9_run 85 = .ok (.istore_n 2, 1) := by decide +kernel
theorem dX9_run_86 : decode cX9_run 86 = .ok (.iload_n 2, 1) := by decide +kernel
theorem dX9_run_87 : decode cX9_run 87 = .ok (.bipush 6, 2) := by decide +kernel
theorem dX9_run_89 : decode cX9_run 89 = .ok (.if_icmp .ge 16, 3) := by decide +kernel
theorem dX9_run_92 : decode cX9_run 92 = .ok (.aload_n 0, 1) := by decide +kernel
theorem dX9_run_93 : decode cX9_run 93 = .ok (.getfield 36, 3) := by decide +kernel
theorem dX9_run_96 : decode cX9_run 96 = .ok (.iload_n 2, 1) := by decide +kernel
theorem dX9_run_97 : decode cX9_run 97 = .ok (.lconst 0, 1) := by decide +kernel
theorem dX9_run_98 : decode cX9_run 98 = .ok (.lastore, 1) := by decide +kernel
theorem dX9_run_99 : decode cX9_run 99 = .ok (.iinc 2 1, 3) := by decide +kernel
theorem dX9_run_102 : decode cX9_run 102 = .ok (.goto (-16), 3) := by decide +kernel
theorem dX9_run_105 : decode cX9_run 105 = .ok (.aload_n 0, 1) := by decide +kernel
theorem dX9_run_106 : decode cX9_run 106 = .ok (.lconst 0, 1) := by decide +kernel
theorem dX9_run_107 : decode cX9_run 107 = .ok (.putfield 164, 3) := by decide +kernel
theorem dX9_run_110 : decode cX9_run 110 = .ok (.aload_n 0, 1) := by decide +kernel
theorem dX9_run_111 : decode cX9_run 111 = .ok (.lconst 1, 1) := by decide +kernel
theorem dX9_run_112 : decode cX9_run 112 = .ok (.putfield 152, 3) := by decide +kernel
theorem dX9_run_115 : decode cX9_run 115 = .ok (.aload_n 0, 1) := by decide +kernel
theorem dX9_run_116 : decode cX9_run 116 = .ok (.lconst 0, 1) := by decide +kernel
theorem dX9_run_117 : decode cX9_run 117 = .ok (.putfield 167, 3) := by decide +kernel
theorem dX9_run_120 : decode cX9_run 120 = .ok (.iconst 0, 1) := by decide +kernel
theorem dX9_run_121 : decode cX9_run 121 = .ok (.istore_n 2, 1) := by decide +kernel
theorem dX9_run_122 : decode cX9_run 122 = .ok (.iload_n 2, 1) := by decide +kernel
theorem dX9_run_123 : decode cX9_run 123 = .ok (.iload_n 1, 1) := by decide +kernel
theorem dX9_run_124 : decode cX9_run 124 = .ok (.if_icmp .ge 24, 3) := by decide +kernel
theorem dX9_run_127 : decode cX9_run 127 = .ok (.aload_n 0, 1) := by decide +kernel
theorem dX9_run_128 : decode cX9_run 128 = .ok (.getfield 19, 3) := by decide +kernel
theorem dX9_run_131 : decode cX9_run 131 = .ok (.iconst 3, 1) := by decide +kernel
theorem dX9_run_132 : decode cX9_run 132 = .ok (.if_icmp .ne 16, 3) := by decide +kernel
theorem dX9_run_135 : decode cX9_run 135 = .ok (.aload_n 0, 1) := by decide +kernel
theorem dX9_run_136 : decode cX9_run 136 = .ok (.invokevirtual 210, 3) := by decide +kernel
theorem dX9_run_139 : decode cX9_run 139 = .ok (.ifCond .eq 9, 3) := by decide +kernel
theorem dX9_run_142 : decode cX9_run 142 = .ok (.iinc 2 1, 3) := by decide +kernel
theorem dX9_run_145 : decode cX9_run 145 = .ok (.goto (-23), 3) := by decide +kernel
theorem dX9_run_148 : decode cX9_run 148 = .ok (.aload_n 0, 1) := by decide +kernel
theorem dX9_run_149 : decode cX9_run 149 = .ok (.aload_n 0, 1) := by decide +kernel
theorem dX9_run_150 : decode cX9_run 150 = .ok (.getfield 213, 3) := by decide +kernel
theorem dX9_run_153 : decode cX9_run 153 = .ok (.aload_n 0, 1) := by decide +kernel
theorem dX9_run_154 : decode cX9_run 154 = .ok (.getfield 167, 3) := by decide +kernel
theorem dX9_run_157 : decode cX9_run 157 = .ok (.ladd, 1) := by decide +kernel
theorem dX9_run_158 : decode cX9_run 158 = .ok (.putfield 213, 3) := by decide +kernel
theorem dX9_run_161 : decode cX9_run 161 = .ok (.iload_n 2, 1) := by decide +kernel
theorem dX9_run_162 : decode cX9_run 162 = .ok (.ireturn, 1) := by decide +kernel
theorem dX9_stopped_0 : decode cX9_stopped 0 = .ok (.aload_n 0, 1) := by decide +kernel
theorem dX9_stopped_1 : decode cX9_stopped 1 = .ok (.iconst 0, 1) := by decide +kernel
theorem dX9_stopped_2 : decode cX9_stopped 2 = .ok (.putfield 39, 3) := by decide +kernel
theorem dX9_stopped_5 : decode cX9_stopped 5 = .ok (.aload_n 0, 1) := by decide +kernel
theorem dX9_stopped_6 : decode cX9_stopped 6 = .ok (.getfield 19, 3) := by decide +kernel
theorem dX9_stopped_9 : decode cX9_stopped 9 = .ok (.ireturn, 1) := by decide +kernel
theorem dX9_place_0 : decode cX9_place 0 = .ok (.aload_n 0, 1) := by decide +kernel
theorem dX9_place_1 : decode cX9_place 1 = .ok (.iconst 0, 1) := by decide +kernel
theorem dX9_place_2 : decode cX9_place 2 = .ok (.putfield 39, 3) := by decide +kernel
theorem dX9_place_5 : decode cX9_place 5 = .ok (.iconst 4, 1) := by decide +kernel
theorem dX9_place_6 : decode cX9_place 6 = .ok (.aload_n 0, 1) := by decide +kernel
theorem dX9_place_7 : decode cX9_place 7 = .ok (.getfield 50, 3) := by decide +kernel
theorem dX9_place_10 : decode cX9_place 10 = .ok (.imul, 1) := by decide +kernel
theorem dX9_place_11 : decode cX9_place 11 = .ok (.aload_n 0, 1) := by decide +kernel
theorem dX9_place_12 : decode cX9_place 12 = .ok (.getfield 53, 3) := by decide +kernel
theorem dX9_place_15 : decode cX9_place 15 = .ok (.iadd, 1) := by decide +kernel
theorem dX9_place_16 : decode cX9_place 16 = .ok (.ireturn, 1) := by decide +kernel
theorem dX9_cycles_0 : decode cX9_cycles 0 = .ok (.aload_n 0, 1) := by decide +kernel
theorem dX9_cycles_1 : decode cX9_cycles 1 = .ok (.iconst 0, 1) := by decide +kernel
theorem dX9_cycles_2 : decode cX9_cycles 2 = .ok (.putfield 39, 3) := by decide +kernel
theorem dX9_cycles_5 : decode cX9_cycles 5 = .ok (.aload_n 0, 1) := by decide +kernel
theorem dX9_cycles_6 : decode cX9_cycles 6 = .ok (.getfield 213, 3) := by decide +kernel
theorem dX9_cycles_9 : decode cX9_cycles 9 = .ok (.lreturn, 1) := by decide +kernel
theorem dX9_done_0 : decode cX9_done 0 = .ok (.aload_n 0, 1) := by decide +kernel
theorem dX9_done_1 : decode cX9_done 1 = .ok (.iload_n 1, 1) := by decide +kernel
theorem dX9_done_2 : decode cX9_done 2 = .ok (.ifCond .lt 9, 3) := by decide +kernel
theorem dX9_done_5 : decode cX9_done 5 = .ok (.iload_n 1, 1) := by decide +kernel
theorem dX9_done_6 : decode cX9_done 6 = .ok (.bipush 7, 2) := by decide +kernel
theorem dX9_done_8 : decode cX9_done 8 = .ok (.if_icmp .le 7, 3) := by decide +kernel
theorem dX9_done_11 : decode cX9_done 11 = .ok (.iconst 1, 1) := by decide +kernel
theorem dX9_done_12 : decode cX9_done 12 = .ok (.goto 4, 3) := by decide +kernel
theorem dX9_done_15 : decode cX9_done 15 = .ok (.iconst 0, 1) := by decide +kernel
theorem dX9_done_16 : decode cX9_done 16 = .ok (.putfield 39, 3) := by decide +kernel
theorem dX9_done_19 : decode cX9_done 19 = .ok (.aload_n 0, 1) := by decide +kernel
theorem dX9_done_20 : decode cX9_done 20 = .ok (.getfield 39, 3) := by decide +kernel
theorem dX9_done_23 : decode cX9_done 23 = .ok (.ifCond .le 7, 3) := by decide +kernel
theorem dX9_done_26 : decode cX9_done 26 = .ok (.iconst 0, 1) := by decide +kernel
theorem dX9_done_27 : decode cX9_done 27 = .ok (.goto 9, 3) := by decide +kernel
theorem dX9_done_30 : decode cX9_done 30 = .ok (.aload_n 0, 1) := by decide +kernel
theorem dX9_done_31 : decode cX9_done 31 = .ok (.getfield 23, 3) := by decide +kernel
theorem dX9_done_34 : decode cX9_done 34 = .ok (.iload_n 1, 1) := by decide +kernel
theorem dX9_done_35 : decode cX9_done 35 = .ok (.iaload, 1) := by decide +kernel
theorem dX9_done_36 : decode cX9_done 36 = .ok (.ireturn, 1) := by decide +kernel
theorem dX9_waited_0 : decode cX9_waited 0 = .ok (.aload_n 0, 1) := by decide +kernel
theorem dX9_waited_1 : decode cX9_waited 1 = .ok (.iload_n 1, 1) := by decide +kernel
theorem dX9_waited_2 : decode cX9_waited 2 = .ok (.ifCond .lt 8, 3) := by decide +kernel
theorem dX9_waited_5 : decode cX9_waited 5 = .ok (.iload_n 1, 1) := by decide +kernel
theorem dX9_waited_6 : decode cX9_waited 6 = .ok (.iconst 4, 1) := by decide +kernel
theorem dX9_waited_7 : decode cX9_waited 7 = .ok (.if_icmp .le 7, 3) := by decide +kernel
theorem dX9_waited_10 : decode cX9_waited 10 = .ok (.iconst 1, 1) := by decide +kernel
theorem dX9_waited_11 : decode cX9_waited 11 = .ok (.goto 4, 3) := by decide +kernel
theorem dX9_waited_14 : decode cX9_waited 14 = .ok (.iconst 0, 1) := by decide +kernel
theorem dX9_waited_15 : decode cX9_waited 15 = .ok (.putfield 39, 3) := by decide +kernel
theorem dX9_waited_18 : decode cX9_waited 18 = .ok (.aload_n 0, 1) := by decide +kernel
theorem dX9_waited_19 : decode cX9_waited 19 = .ok (.getfield 39, 3) := by decide +kernel
theorem dX9_waited_22 : decode cX9_waited 22 = .ok (.ifCond .le 7, 3) := by decide +kernel
theorem dX9_waited_25 : decode cX9_waited 25 = .ok (.lconst 0, 1) := by decide +kernel
theorem dX9_waited_26 : decode cX9_waited 26 = .ok (.goto 9, 3) := by decide +kernel
theorem dX9_waited_29 : decode cX9_waited 29 = .ok (.aload_n 0, 1) := by decide +kernel
theorem dX9_waited_30 : decode cX9_waited 30 = .ok (.getfield 27, 3) := by decide +kernel
theorem dX9_waited_33 : decode cX9_waited 33 = .ok (.iload_n 1, 1) := by decide +kernel
theorem dX9_waited_34 : decode cX9_waited 34 = .ok (.laload, 1) := by decide +kernel
theorem dX9_waited_35 : decode cX9_waited 35 = .ok (.lreturn, 1) := by decide +kernel
