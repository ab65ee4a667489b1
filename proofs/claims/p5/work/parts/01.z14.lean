theorem dX1_perform_253 : decode cX1_perform 253 = .ok (.aload_n 0, 1) := by decide +kernel
theorem dX1_perform_254 : decode cX1_perform 254 = .ok (.iload_n 2, 1) := by decide +kernel
theorem dX1_perform_255 : decode cX1_perform 255 = .ok (.invokevirtual 58, 3) := by decide +kernel
theorem dX1_perform_258 : decode cX1_perform 258 = .ok (.invokevirtual 84, 3) := by decide +kernel
theorem dX1_perform_261 : decode cX1_perform 261 = .ok (.ireturn, 1) := by decide +kernel
theorem dX1_perform_262 : decode cX1_perform 262 = .ok (.aload_n 0, 1) := by decide +kernel
theorem dX1_perform_263 : decode cX1_perform 263 = .ok (.invokevirtual 87, 3) := by decide +kernel
theorem dX1_perform_266 : decode cX1_perform 266 = .ok (.ireturn, 1) := by decide +kernel
theorem dX1_read_0 : decode cX1_read 0 = .ok (.aload_n 0, 1) := by decide +kernel
theorem dX1_read_1 : decode cX1_read 1 = .ok (.getfield 12, 3) := by decide +kernel
theorem dX1_read_4 : decode cX1_read 4 = .ok (.getfield 90, 3) := by decide +kernel
theorem dX1_read_7 : decode cX1_read 7 = .ok (.aload_n 0, 1) := by decide +kernel
theorem dX1_read_8 : decode cX1_read 8 = .ok (.getfield 12, 3) := by decide +kernel
theorem dX1_read_11 : decode cX1_read 11 = .ok (.getfield 29, 3) := by decide +kernel
theorem dX1_read_14 : decode cX1_read 14 = .ok (.iconst 1, 1) := by decide +kernel
theorem dX1_read_15 : decode cX1_read 15 = .ok (.isub, 1) := by decide +kernel
theorem dX1_read_16 : decode cX1_read 16 = .ok (.bipush 8, 2) := by decide +kernel
theorem dX1_read_18 : decode cX1_read 18 = .ok (.imul, 1) := by decide +kernel
theorem dX1_read_19 : decode cX1_read 19 = .ok (.iload_n 1, 1) := by decide +kernel
theorem dX1_read_20 : decode cX1_read 20 = .ok (.iadd, 1) := by decide +kernel
theorem dX1_read_21 : decode cX1_read 21 = .ok (.iaload, 1) := by decide +kernel
theorem dX1_read_22 : decode cX1_read 22 = .ok (.ireturn, 1) := by decide +kernel
theorem dX1_put_0 : decode cX1_put 0 = .ok (.aload_n 0, 1) := by decide +kernel
theorem dX1_put_1 : decode cX1_put 1 = .ok (.getfield 12, 3) := by decide +kernel
theorem dX1_put_4 : decode cX1_put 4 = .ok (.getfield 90, 3) := by decide +kernel
theorem dX1_put_7 : decode cX1_put 7 = .ok (.aload_n 0, 1) := by decide +kernel
theorem dX1_put_8 : decode cX1_put 8 = .ok (.getfield 12, 3) := by decide +kernel
theorem dX1_put_11 : decode cX1_put 11 = .ok (.getfield 29, 3) := by decide +kernel
theorem dX1_put_14 : decode cX1_put 14 = .ok (.iconst 1, 1) := by decide +kernel
theorem dX1_put_15 : decode cX1_put 15 = .ok (.isub, 1) := by decide +kernel
theorem dX1_put_16 : decode cX1_put 16 = .ok (.bipush 8, 2) := by decide +kernel
theorem dX1_put_18 : decode cX1_put 18 = .ok (.imul, 1) := by decide +kernel
theorem dX1_put_19 : decode cX1_put 19 = .ok (.iload_n 1, 1) := by decide +kernel
theorem dX1_put_20 : decode cX1_put 20 = .ok (.iadd, 1) := by decide +kernel
theorem dX1_put_21 : decode cX1_put 21 = .ok (.iload_n 2, 1) := by decide +kernel
theorem dX1_put_22 : decode cX1_put 22 = .ok (.iastore, 1) := by decide +kernel
theorem dX1_put_23 : decode cX1_put 23 = .ok (.aload_n 0, 1) := by decide +kernel
theorem dX1_put_24 : decode cX1_put 24 = .ok (.invokevirtual 74, 3) := by decide +kernel
theorem dX1_put_27 : decode cX1_put 27 = .ok (.ireturn, 1) := by decide +kernel
theorem dX1_pass_0 : decode cX1_pass 0 = .ok (.aload_n 0, 1) := by decide +kernel
theorem dX1_pass_1 : decode cX1_pass 1 = .ok (.getfield 12, 3) := by decide +kernel
theorem dX1_pass_4 : decode cX1_pass 4 = .ok (.getfield 26, 3) := by decide +kernel
theorem dX1_pass_7 : decode cX1_pass 7 = .ok (.aload_n 0, 1) := by decide +kernel
theorem dX1_pass_8 : decode cX1_pass 8 = .ok (.getfield 12, 3) := by decide +kernel
theorem dX1_pass_11 : decode cX1_pass 11 = .ok (.getfield 29, 3) := by decide +kernel
theorem dX1_pass_14 : decode cX1_pass 14 = .ok (.iconst 1, 1) := by decide +kernel
theorem dX1_pass_15 : decode cX1_pass 15 = .ok (.isub, 1) := by decide +kernel
theorem dX1_pass_16 : decode cX1_pass 16 = .ok (.dup2, 1) := by decide +kernel
theorem dX1_pass_17 : decode cX1_pass 17 = .ok (.iaload, 1) := by decide +kernel
theorem dX1_pass_18 : decode cX1_pass 18 = .ok (.iconst 1, 1) := by decide +kernel
theorem dX1_pass_19 : decode cX1_pass 19 = .ok (.iadd, 1) := by decide +kernel
theorem dX1_pass_20 : decode cX1_pass 20 = .ok (.iastore, 1) := by decide +kernel
theorem dX1_pass_21 : decode cX1_pass 21 = .ok (.iconst 1, 1) := by decide +kernel
theorem dX1_pass_22 : decode cX1_pass 22 = .ok (.ireturn, 1) := by decide +kernel
theorem dX1_jump_0 : decode cX1_jump 0 = .ok (.aload_n 0, 1) := by decide +kernel
theorem dX1_jump_1 : decode cX1_jump 1 = .ok (.getfield 12, 3) := by decide +kernel
theorem dX1_jump_4 : decode cX1_jump 4 = .ok (.getfield 26, 3) := by decide +kernel
theorem dX1_jump_7 : decode cX1_jump 7 = .ok (.aload_n 0, 1) := by decide +kernel
theorem dX1_jump_8 : decode cX1_jump 8 = .ok (.getfield 12, 3) := by decide +kernel
theorem dX1_jump_11 : decode cX1_jump 11 = .ok (.getfield 29, 3) := by decide +kernel
theorem dX1_jump_14 : decode cX1_jump 14 = .ok (.iconst 1, 1) := by decide +kernel
theorem dX1_jump_15 : decode cX1_jump 15 = .ok (.isub, 1) := by decide +kernel
theorem dX1_jump_16 : decode cX1_jump 16 = .ok (.iload_n 1, 1) := by decide +kernel
theorem dX1_jump_17 : decode cX1_jump 17 = .ok (.iastore, 1) := by decide +kernel
theorem dX1_jump_18 : decode cX1_jump 18 = .ok (.iconst 1, 1) := by decide +kernel
theorem dX1_jump_19 : decode cX1_jump 19 = .ok (.ireturn, 1) := by decide +kernel
theorem dX1_end_0 : decode cX1_end 0 = .ok (.aload_n 0, 1) := by decide +kernel
theorem dX1_end_1 : decode cX1_end 1 = .ok (.getfield 12, 3) := by decide +kernel
theorem dX1_end_4 : decode cX1_end 4 = .ok (.iconst 1, 1) := by decide +kernel
theorem dX1_end_5 : decode cX1_end 5 = .ok (.putfield 93, 3) := by decide +kernel
theorem dX1_end_8 : decode cX1_end 8 = .ok (.iconst 1, 1) := by decide +kernel
theorem dX1_end_9 : decode cX1_end 9 = .ok (.ireturn, 1) := by decide +kernel
theorem dX1_store_0 : decode cX1_store 0 = .ok (.iload_n 1, 1) := by decide +kernel
theorem dX1_store_1 : decode cX1_store 1 = .ok (.invokestatic 62, 3) := by decide +kernel
theorem dX1_store_4 : decode cX1_store 4 = .ok (.ifCond .ne 5, 3) := by decide +kernel
theorem dX1_store_7 : decode cX1_store 7 = .ok (.iconst 0, 1) := by decide +kernel
theorem dX1_store_8 : decode cX1_store 8 = .ok (.ireturn, 1) := by decide +kernel
theorem dX1_store_9 : decode cX1_store 9 = .ok (.aload_n 0, 1) := by decide +kernel
theorem dX1_store_10 : decode cX1_store 10 = .ok (.getfield 12, 3) := by decide +kernel
theorem dX1_store_13 : decode cX1_store 13 = .ok (.getfield 65, 3) := by decide +kernel
theorem dX1_store_16 : decode cX1_store 16 = .ok (.iload_n 1, 1) := by decide +kernel
theorem dX1_store_17 : decode cX1_store 17 = .ok (.iaload, 1) := by decide +kernel
theorem dX1_store_18 : decode cX1_store 18 = .ok (.iload_n 2, 1) := by decide +kernel
theorem dX1_store_19 : decode cX1_store 19 = .ok (.if_icmp .eq 8, 3) := by decide +kernel
theorem dX1_store_22 : decode cX1_store 22 = .ok (.aload_n 0, 1) := by decide +kernel
theorem dX1_store_23 : decode cX1_store 23 = .ok (.iload_n 1, 1) := by decide +kernel
theorem dX1_store_24 : decode cX1_store 24 = .ok (.putfield 22, 3) := by decide +kernel
theorem dX1_store_27 : decode cX1_store 27 = .ok (.aload_n 0, 1) := by decide +kernel
theorem dX1_store_28 : decode cX1_store 28 = .ok (.getfield 12, 3) := by decide +kernel
theorem dX1_store_31 : decode cX1_store 31 = .ok (.getfield 65, 3) := by decide +kernel
theorem dX1_store_34 : decode cX1_store 34 = .ok (.iload_n 1, 1) := by decide +kernel
theorem dX1_store_35 : decode cX1_store 35 = .ok (.iload_n 2, 1) := by decide +kernel
theorem dX1_store_36 : decode cX1_store 36 = .ok (.iastore, 1) := by decide +kernel
theorem dX1_store_37 : decode cX1_store 37 = .ok (.aload_n 0, 1) := by decide +kernel
theorem dX1_store_38 : decode cX1_store 38 = .ok (.invokevirtual 74, 3) := by decide +kernel
theorem dX1_store_41 : decode cX1_store 41 = .ok (.ireturn, 1) := by decide +kernel
theorem dX1_enter_0 : decode cX1_enter 0 = .ok (.aload_n 0, 1) := by decide +kernel
theorem dX1_enter_1 : decode cX1_enter 1 = .ok (.getfield 12, 3) := by decide +kernel
theorem dX1_enter_4 : decode cX1_enter 4 = .ok (.getfield 29, 3) := by decide +kernel
theorem dX1_enter_7 : decode cX1_enter 7 = .ok (.bipush 16, 2) := by decide +kernel
theorem dX1_enter_9 : decode cX1_enter 9 = .ok (.if_icmp .ne 5, 3) := by decide +kernel
theorem dX1_enter_12 : decode cX1_enter 12 = .ok (.iconst 0, 1) := by decide +kernel
theorem dX1_enter_13 : decode cX1_enter 13 = .ok (.ireturn, 1) := by decide +kernel
theorem dX1_enter_14 : decode cX1_enter 14 = .ok (.aload_n 0, 1) := by decide +kernel
theorem dX1_enter_15 : decode cX1_enter 15 = .ok (.invokevirtual 74, 3) := by decide +kernel
theorem dX1_enter_18 : decode cX1_enter 18 = .ok (.pop, 1) := by decide +kernel
theorem dX1_enter_19 : decode cX1_enter 19 = .ok (.aload_n 0, 1) := by decide +kernel
theorem dX1_enter_20 : decode cX1_enter 20 = .ok (.getfield 12, 3) := by decide +kernel
theorem dX1_enter_23 : decode cX1_enter 23 = .ok (.getfield 29, 3) := by decide +kernel
theorem dX1_enter_26 : decode cX1_enter 26 = .ok (.iconst 1, 1) := by decide +kernel
theorem dX1_enter_27 : decode cX1_enter 27 = .ok (.isub, 1) := by decide +kernel
theorem dX1_enter_28 : decode cX1_enter 28 = .ok (.bipush 8, 2) := by decide +kernel
theorem dX1_enter_30 : decode cX1_enter 30 = .ok (.imul, 1) := by decide +kernel
theorem dX1_enter_31 : decode cX1_enter 31 = .ok (.istore_n 3, 1) := by decide +kernel
theorem dX1_enter_32 : decode cX1_enter 32 = .ok (.iconst 0, 1) := by decide +kernel
theorem dX1_enter_33 : decode cX1_enter 33 = .ok (.istore 4, 2) := by decide +kernel
theorem dX1_enter_35 : decode cX1_enter 35 = .ok (.iload 4, 2) := by decide +kernel
theorem dX1_enter_37 : decode cX1_enter 37 = .ok (.bipush 8, 2) := by decide +kernel
theorem dX1_enter_39 : decode cX1_enter 39 = .ok (.if_icmp .ge 46, 3) := by decide +kernel
theorem dX1_enter_42 : decode cX1_enter 42 = .ok (.aload_n 0, 1) := by decide +kernel
theorem dX1_enter_43 : decode cX1_enter 43 = .ok (.getfield 12, 3) := by decide +kernel
theorem dX1_enter_46 : decode cX1_enter 46 = .ok (.getfield 90, 3) := by decide +kernel
theorem dX1_enter_49 : decode cX1_enter 49 = .ok (.iload_n 3, 1) := by decide +kernel
theorem dX1_enter_50 : decode cX1_enter 50 = .ok (.bipush 8, 2) := by decide +kernel
theorem dX1_enter_52 : decode cX1_enter 52 = .ok (.iadd, 1) := by decide +kernel
theorem dX1_enter_53 : decode cX1_enter 53 = .ok (.iload 4, 2) := by decide +kernel
theorem dX1_enter_55 : decode cX1_enter 55 = .ok (.iadd, 1) := by decide +kernel
theorem dX1_enter_56 : decode cX1_enter 56 = .ok (.iload 4, 2) := by decide +kernel
theorem dX1_enter_58 : decode cX1_enter 58 = .ok (.iload_n 2, 1) := by decide +kernel
theorem dX1_enter_59 : decode cX1_enter 59 = .ok (.if_icmp .ge 18, 3) := by decide +kernel
theorem dX1_enter_62 : decode cX1_enter 62 = .ok (.aload_n 0, 1) := by decide +kernel
theorem dX1_enter_63 : decode cX1_enter 63 = .ok (.getfield 12, 3) := by decide +kernel
theorem dX1_enter_66 : decode cX1_enter 66 = .ok (.getfield 90, 3) := by decide +kernel
theorem dX1_enter_69 : decode cX1_enter 69 = .ok (.iload_n 3, 1) := by decide +kernel
theorem dX1_enter_70 : decode cX1_enter 70 = .ok (.iload 4, 2) := by decide +kernel
theorem dX1_enter_72 : decode cX1_enter 72 = .ok (.iadd, 1) := by decide +kernel
theorem dX1_enter_73 : decode cX1_enter 73 = .ok (.iaload, 1) := by decide +kernel
theorem dX1_enter_74 : decode cX1_enter 74 = .ok (.goto 4, 3) := by decide +kernel
theorem dX1_enter_77 : decode cX1_enter 77 = .ok (.iconst 0, 1) := by decide +kernel
theorem dX1_enter_78 : decode cX1_enter 78 = .ok (.iastore, 1) := by decide +kernel
theorem dX1_enter_79 : decode cX1_enter 79 = .ok (.iinc 4 1, 3) := by decide +kernel
theorem dX1_enter_82 : decode cX1_enter 82 = .ok (.goto (-47), 3) := by decide +kernel
theorem dX1_enter_85 : decode cX1_enter 85 = .ok (.aload_n 0, 1) := by decide +kernel
theorem dX1_enter_86 : decode cX1_enter 86 = .ok (.getfield 12, 3) := by decide +kernel
theorem dX1_enter_89 : decode cX1_enter 89 = .ok (.dup, 1) := by decide +kernel
theorem dX1_enter_90 : decode cX1_enter 90 = .ok (.getfield 29, 3) := by decide +kernel
theorem dX1_enter_93 : decode cX1_enter 93 = .ok (.iconst 1, 1) := by decide +kernel
theorem dX1_enter_94 : decode cX1_enter 94 = .ok (.iadd, 1) := by decide +kernel
theorem dX1_enter_95 : decode cX1_enter 95 = .ok (.putfield 29, 3) := by decide +kernel
theorem dX1_enter_98 : decode cX1_enter 98 = .ok (.aload_n 0, 1) := by decide +kernel
theorem dX1_enter_99 : decode cX1_enter 99 = .ok (.iload_n 1, 1) := by decide +kernel
theorem dX1_enter_100 : decode cX1_enter 100 = .ok (.invokevirtual 71, 3) := by decide +kernel
theorem dX1_enter_103 : decode cX1_enter 103 = .ok (.ireturn, 1) := by decide +kernel
theorem dX1_leave_0 : decode cX1_leave 0 = .ok (.aload_n 0, 1) := by decide +kernel
theorem dX1_leave_1 : decode cX1_leave 1 = .ok (.getfield 12, 3) := by decide +kernel
theorem dX1_leave_4 : decode cX1_leave 4 = .ok (.getfield 29, 3) := by decide +kernel
theorem dX1_leave_7 : decode cX1_leave 7 = .ok (.iconst 1, 1) := by decide +kernel
theorem dX1_leave_8 : decode cX1_leave 8 = .ok (.if_icmp .ne 8, 3) := by decide +kernel
theorem dX1_leave_11 : decode cX1_leave 11 = .ok (.aload_n 0, 1) := by decide +kernel
theorem dX1_leave_12 : decode cX1_leave 12 = .ok (.invokevirtual 87, 3) := by decide +kernel
theorem dX1_leave_15 : decode cX1_leave 15 = .ok (.ireturn, 1) := by decide +kernel
theorem dX1_leave_16 : decode cX1_leave 16 = .ok (.aload_n 0, 1) := by decide +kernel
theorem dX1_leave_17 : decode cX1_leave 17 = .ok (.getfield 12, 3) := by decide +kernel
theorem dX1_leave_20 : decode cX1_leave 20 = .ok (.dup, 1) := by decide +kernel
theorem dX1_leave_21 : decode cX1_leave 21 = .ok (.getfield 29, 3) := by decide +kernel
theorem dX1_leave_24 : decode cX1_leave 24 = .ok (.iconst 1, 1) := by decide +kernel
theorem dX1_leave_25 : decode cX1_leave 25 = .ok (.isub, 1) := by decide +kernel
theorem dX1_leave_26 : decode cX1_leave 26 = .ok (.putfield 29, 3) := by decide +kernel
theorem dX1_leave_29 : decode cX1_leave 29 = .ok (.aload_n 0, 1) := by decide +kernel
theorem dX1_leave_30 : decode cX1_leave 30 = .ok (.getfield 12, 3) := by decide +kernel
theorem dX1_leave_33 : decode cX1_leave 33 = .ok (.getfield 90, 3) := by decide +kernel
theorem dX1_leave_36 : decode cX1_leave 36 = .ok (.aload_n 0, 1) := by decide +kernel
theorem dX1_leave_37 : decode cX1_leave 37 = .ok (.getfield 12, 3) := by decide +kernel
theorem dX1_leave_40 : decode cX1_leave 40 = .ok (.getfield 29, 3) := by decide +kernel
theorem dX1_leave_43 : decode cX1_leave 43 = .ok (.iconst 1, 1) := by decide +kernel
theorem dX1_leave_44 : decode cX1_leave 44 = .ok (.isub, 1) := by decide +kernel
theorem dX1_leave_45 : decode cX1_leave 45 = .ok (.bipush 8, 2) := by decide +kernel
theorem dX1_leave_47 : decode cX1_leave 47 = .ok (.imul, 1) := by decide +kernel
theorem dX1_leave_48 : decode cX1_leave 48 = .ok (.iload_n 1, 1) := by decide +kernel
theorem dX1_leave_49 : decode cX1_leave 49 = .ok (.iastore, 1) := by decide +kernel
theorem dX1_leave_50 : decode cX1_leave 50 = .ok (.iconst 1, 1) := by decide +kernel
theorem dX1_leave_51 : decode cX1_leave 51 = .ok (.ireturn, 1) := by decide +kernel
theorem dX1_print_0 : decode cX1_print 0 = .ok (.aload_n 0, 1) := by decide +kernel
theorem dX1_print_1 : decode cX1_print 1 = .ok (.getfield 12, 3) := by decide +kernel
theorem dX1_print_4 : decode cX1_print 4 = .ok (.getfield 97, 3) := by decide +kernel
theorem dX1_print_7 : decode cX1_print 7 = .ok (.sipush 200, 3) := by decide +kernel
theorem dX1_print_10 : decode cX1_print 10 = .ok (.if_icmp .ne 5, 3) := by decide +kernel
theorem dX1_print_13 : decode cX1_print 13 = .ok (.iconst 0, 1) := by decide +kernel
theorem dX1_print_14 : decode cX1_print 14 = .ok (.ireturn, 1) := by decide +kernel
theorem dX1_print_15 : decode cX1_print 15 = .ok (.aload_n 0, 1) := by decide +kernel
theorem dX1_print_16 : decode cX1_print 16 = .ok (.getfield 18, 3) := by decide +kernel
theorem dX1_print_19 : decode cX1_print 19 = .ok (.aload_n 0, 1) := by decide +kernel
theorem dX1_print_20 : decode cX1_print 20 = .ok (.getfield 12, 3) := by decide +kernel
theorem dX1_print_23 : decode cX1_print 23 = .ok (.getfield 97, 3) := by decide +kernel
theorem dX1_print_26 : decode cX1_print 26 = .ok (.iload_n 1, 1) := by decide +kernel
theorem dX1_print_27 : decode cX1_print 27 = .ok (.iastore, 1) := by decide +kernel
theorem dX1_print_28 : decode cX1_print 28 = .ok (.aload_n 0, 1) := by decide +kernel
theorem dX1_print_29 : decode cX1_print 29 = .ok (.getfield 12, 3) := by decide +kernel
theorem dX1_print_32 : decode cX1_print 32 = .ok (.dup, 1) := by decide +kernel
theorem dX1_print_33 : decode cX1_print 33 = .ok (.getfield 97, 3) := by decide +kernel
theorem dX1_print_36 : decode cX1_print 36 = .ok (.iconst 1, 1) := by decide +kernel
theorem dX1_print_37 : decode cX1_print 37 = .ok (.iadd, 1) := by decide +kernel
theorem dX1_print_38 : decode cX1_print 38 = .ok (.putfield 97, 3) := by decide +kernel
theorem dX1_print_41 : decode cX1_print 41 = .ok (.aload_n 0, 1) := by decide +kernel
theorem dX1_print_42 : decode cX1_print 42 = .ok (.invokevirtual 74, 3) := by decide +kernel
theorem dX1_print_45 : decode cX1_print 45 = .ok (.ireturn, 1) := by decide +kernel
theorem dX2_init_0 : decode cX2_init 0 = .ok (.aload_n 0, 1) := by decide +kernel
theorem dX2_init_1 : decode cX2_init 1 = .ok (.invokespecial 3, 3) := by decide +kernel
theorem dX2_init_4 : decode cX2_init 4 = .ok (.aload_n 0, 1) := by decide +kernel
theorem dX2_init_5 : decode cX2_init 5 = .ok (.bipush 80, 2) := by decide +kernel
theorem dX2_init_7 : decode cX2_init 7 = .ok (.newarray .int, 2) := by decide +kernel
theorem dX2_init_9 : decode cX2_init 9 = .ok (.putfield 9, 3) := by decide +kernel
theorem dX2_init_12 : decode cX2_init 12 = .ok (.aload_n 0, 1) := by decide +kernel
theorem dX2_init_13 : decode cX2_init 13 = .ok (.bipush 80, 2) := by decide +kernel
theorem dX2_init_15 : decode cX2_init 15 = .ok (.newarray .int, 2) := by decide +kernel
theorem dX2_init_17 : decode cX2_init 17 = .ok (.putfield 15, 3) := by decide +kernel
theorem dX2_init_20 : decode cX2_init 20 = .ok (.aload_n 0, 1) := by decide +kernel
theorem dX2_init_21 : decode cX2_init 21 = .ok (.bipush 80, 2) := by decide +kernel
theorem dX2_init_23 : decode cX2_init 23 = .ok (.newarray .int, 2) := by decide +kernel
theorem dX2_init_25 : decode cX2_init 25 = .ok (.putfield 18, 3) := by decide +kernel
theorem dX2_init_28 : decode cX2_init 28 = .ok (.aload_n 0, 1) := by decide +kernel
theorem dX2_init_29 : decode cX2_init 29 = .ok (.bipush 80, 2) := by decide +kernel
theorem dX2_init_31 : decode cX2_init 31 = .ok (.newarray .boolean, 2) := by decide +kernel
theorem dX2_init_33 : decode cX2_init 33 = .ok (.putfield 21, 3) := by decide +kernel
theorem dX2_init_36 : decode cX2_init 36 = .ok (.return_, 1) := by decide +kernel
theorem dX2_allows_0 : decode cX2_allows 0 = .ok (.iload_n 0, 1) := by decide +kernel
theorem dX2_allows_1 : decode cX2_allows 1 = .ok (.ifCond .lt 9, 3) := by decide +kernel
theorem dX2_allows_4 : decode cX2_allows 4 = .ok (.iload_n 0, 1) := by decide +kernel
theorem dX2_allows_5 : decode cX2_allows 5 = .ok (.bipush 12, 2) := by decide +kernel
theorem dX2_allows_7 : decode cX2_allows 7 = .ok (.if_icmp .le 5, 3) := by decide +kernel
theorem dX2_allows_10 : decode cX2_allows 10 = .ok (.iconst 0, 1) := by decide +kernel
theorem dX2_allows_11 : decode cX2_allows 11 = .ok (.ireturn, 1) := by decide +kernel
theorem dX2_allows_12 : decode cX2_allows 12 = .ok (.iload_n 0, 1) := by decide +kernel
theorem dX2_allows_13 : decode cX2_allows 13 = .ok (.invokestatic 25, 3) := by decide +kernel
theorem dX2_allows_16 : decode cX2_allows 16 = .ok (.ifCond .eq 12, 3) := by decide +kernel
theorem dX2_allows_19 : decode cX2_allows 19 = .ok (.iload_n 1, 1) := by decide +kernel
theorem dX2_allows_20 : decode cX2_allows 20 = .ok (.invokestatic 29, 3) := by decide +kernel
theorem dX2_allows_23 : decode cX2_allows 23 = .ok (.ifCond .ne 5, 3) := by decide +kernel
theorem dX2_allows_26 : decode cX2_allows 26 = .ok (.iconst 0, 1) := by decide +kernel
theorem dX2_allows_27 : decode cX2_allows 27 = .ok (.ireturn, 1) := by decide +kernel
theorem dX2_allows_28 : decode cX2_allows 28 = .ok (.iload_n 0, 1) := by decide +kernel
theorem dX2_allows_29 : decode cX2_allows 29 = .ok (.iconst 1, 1) := by decide +kernel
theorem dX2_allows_30 : decode cX2_allows 30 = .ok (.if_icmp .lt 18, 3) := by decide +kernel
theorem dX2_allows_33 : decode cX2_allows 33 = .ok (.iload_n 0, 1) := by decide +kernel
theorem dX2_allows_34 : decode cX2_allows 34 = .ok (.bipush 6, 2) := by decide +kernel
theorem dX2_allows_36 : decode cX2_allows 36 = .ok (.if_icmp .gt 12, 3) := by decide +kernel
theorem dX2_allows_39 : decode cX2_allows 39 = .ok (.iload_n 2, 1) := by decide +kernel
theorem dX2_allows_40 : decode cX2_allows 40 = .ok (.invokestatic 29, 3) := by decide +kernel
theorem dX2_allows_43 : decode cX2_allows 43 = .ok (.ifCond .ne 5, 3) := by decide +kernel
theorem dX2_allows_46 : decode cX2_allows 46 = .ok (.iconst 0, 1) := by decide +kernel
theorem dX2_allows_47 : decode cX2_allows 47 = .ok (.ireturn, 1) := by decide +kernel
theorem dX2_allows_48 : decode cX2_allows 48 = .ok (.iload_n 0, 1) := by decide +kernel
theorem dX2_allows_49 : decode cX2_allows 49 = .ok (.bipush 9, 2) := by decide +kernel
theorem dX2_allows_51 : decode cX2_allows 51 = .ok (.if_icmp .ne 13, 3) := by decide +kernel
theorem dX2_allows_54 : decode cX2_allows 54 = .ok (.iload_n 2, 1) := by decide +kernel
theorem dX2_allows_55 : decode cX2_allows 55 = .ok (.ifCond .lt 13, 3) := by decide +kernel
theorem dX2_allows_58 : decode cX2_allows 58 = .ok (.iload_n 2, 1) := by decide +kernel
theorem dX2_allows_59 : decode cX2_allows 59 = .ok (.bipush 8, 2) := by decide +kernel
theorem dX2_allows_61 : decode cX2_allows 61 = .ok (.if_icmp .gt 7, 3) := by decide +kernel
theorem dX2_allows_64 : decode cX2_allows 64 = .ok (.iconst 1, 1) := by decide +kernel
theorem dX2_allows_65 : decode cX2_allows 65 = .ok (.goto 4, 3) := by decide +kernel
theorem dX2_allows_68 : decode cX2_allows 68 = .ok (.iconst 0, 1) := by decide +kernel
theorem dX2_allows_69 : decode cX2_allows 69 = .ok (.ireturn, 1) := by decide +kernel
theorem dX2_takesLocalA_0 : decode cX2_takesLocalA 0 = .ok (.iload_n 0, 1) := by decide +kernel
theorem dX2_takesLocalA_1 : decode cX2_takesLocalA 1 = .ok (.bipush 6, 2) := by decide +kernel
theorem dX2_takesLocalA_3 : decode cX2_takesLocalA 3 = .ok (.if_icmp .le 21, 3) := by decide +kernel
theorem dX2_takesLocalA_6 : decode cX2_takesLocalA 6 = .ok (.iload_n 0, 1) := by decide +kernel
theorem dX2_takesLocalA_7 : decode cX2_takesLocalA 7 = .ok (.bipush 8, 2) := by decide +kernel
theorem dX2_takesLocalA_9 : decode cX2_takesLocalA 9 = .ok (.if_icmp .eq 15, 3) := by decide +kernel
theorem dX2_takesLocalA_12 : decode cX2_takesLocalA 12 = .ok (.iload_n 0, 1) := by decide +kernel
theorem dX2_takesLocalA_13 : decode cX2_takesLocalA 13 = .ok (.bipush 10, 2) := by decide +kernel
theorem dX2_takesLocalA_15 : decode cX2_takesLocalA 15 = .ok (.if_icmp .eq 9, 3) := by decide +kernel
theorem dX2_takesLocalA_18 : decode cX2_takesLocalA 18 = .ok (.iload_n 0, 1) := by decide +kernel
theorem dX2_takesLocalA_19 : decode cX2_takesLocalA 19 = .ok (.bipush 11, 2) := by decide +kernel
theorem dX2_takesLocalA_21 : decode cX2_takesLocalA 21 = .ok (.if_icmp .ne 7, 3) := by decide +kernel
theorem dX2_takesLocalA_24 : decode cX2_takesLocalA 24 = .ok (.iconst 1, 1) := by decide +kernel
theorem dX2_takesLocalA_25 : decode cX2_takesLocalA 25 = .ok (.goto 4, 3) := by decide +kernel
theorem dX2_takesLocalA_28 : decode cX2_takesLocalA 28 = .ok (.iconst 0, 1) := by decide +kernel
theorem dX2_takesLocalA_29 : decode cX2_takesLocalA 29 = .ok (.ireturn, 1) := by decide +kernel
theorem dX2_has_0 : decode cX2_has 0 = .ok (.iload_n 1, 1) := by decide +kernel
theorem dX2_has_1 : decode cX2_has 1 = .ok (.ifCond .lt 15, 3) := by decide +kernel
theorem dX2_has_4 : decode cX2_has 4 = .ok (.iload_n 1, 1) := by decide +kernel
theorem dX2_has_5 : decode cX2_has 5 = .ok (.aload_n 0, 1) := by decide +kernel
theorem dX2_has_6 : decode cX2_has 6 = .ok (.getfield 32, 3) := by decide +kernel
theorem dX2_has_9 : decode cX2_has 9 = .ok (.if_icmp .ge 7, 3) := by decide +kernel
theorem dX2_has_12 : decode cX2_has 12 = .ok (.iconst 1, 1) := by decide +kernel
theorem dX2_has_13 : decode cX2_has 13 = .ok (.goto 4, 3) := by decide +kernel
theorem dX2_has_16 : decode cX2_has 16 = .ok (.iconst 0, 1) := by decide +kernel
theorem dX2_has_17 : decode cX2_has 17 = .ok (.ireturn, 1) := by decide +kernel
theorem dX2_isMarked_0 : decode cX2_isMarked 0 = .ok (.aload_n 0, 1) := by decide +kernel
theorem dX2_isMarked_1 : decode cX2_isMarked 1 = .ok (.iload_n 1, 1) := by decide +kernel
theorem dX2_isMarked_2 : decode cX2_isMarked 2 = .ok (.invokevirtual 36, 3) := by decide +kernel
theorem dX2_isMarked_5 : decode cX2_isMarked 5 = .ok (.ifCond .eq 16, 3) := by decide +kernel
theorem dX2_isMarked_8 : decode cX2_isMarked 8 = .ok (.aload_n 0, 1) := by decide +kernel
theorem dX2_isMarked_9 : decode cX2_isMarked 9 = .ok (.getfield 21, 3) := by decide +kernel
theorem dX2_isMarked_12 : decode cX2_isMarked 12 = .ok (.iload_n 1, 1) := by decide +kernel
theorem dX2_isMarked_13 : decode cX2_isMarked 13 = .ok (.baload, 1) := by decide +kernel
theorem dX2_isMarked_14 : decode cX2_isMarked 14 = .ok (.ifCond .eq 7, 3) := by decide +kernel
theorem dX2_isMarked_17 : decode cX2_isMarked 17 = .ok (.iconst 1, 1) := by decide +kernel
theorem dX2_isMarked_18 : decode cX2_isMarked 18 = .ok (.goto 4, 3) := by decide +kernel
theorem dX2_isMarked_21 : decode cX2_isMarked 21 = .ok (.iconst 0, 1) := by decide +kernel
theorem dX2_isMarked_22 : decode cX2_isMarked 22 = .ok (.ireturn, 1) := by decide +kernel
theorem dX2_append_0 : decode cX2_append 0 = .ok (.aload_n 0, 1) := by decide +kernel
theorem dX2_append_1 : decode cX2_append 1 = .ok (.getfield 9, 3) := by decide +kernel
theorem dX2_append_4 : decode cX2_append 4 = .ok (.aload_n 0, 1) := by decide +kernel
theorem dX2_append_5 : decode cX2_append 5 = .ok (.getfield 32, 3) := by decide +kernel
theorem dX2_append_8 : decode cX2_append 8 = .ok (.iload_n 1, 1) := by decide +kernel
theorem dX2_append_9 : decode cX2_append 9 = .ok (.iastore, 1) := by decide +kernel
theorem dX2_append_10 : decode cX2_append 10 = .ok (.aload_n 0, 1) := by decide +kernel
theorem dX2_append_11 : decode cX2_append 11 = .ok (.getfield 15, 3) := by decide +kernel
theorem dX2_append_14 : decode cX2_append 14 = .ok (.aload_n 0, 1) := by decide +kernel
theorem dX2_append_15 : decode cX2_append 15 = .ok (.getfield 32, 3) := by decide +kernel
theorem dX2_append_18 : decode cX2_append 18 = .ok (.iload_n 2, 1) := by decide +kernel
theorem dX2_append_19 : decode cX2_append 19 = .ok (.iastore, 1) := by decide +kernel
theorem dX2_append_20 : decode cX2_append 20 = .ok (.aload_n 0, 1) := by decide +kernel
theorem dX2_append_21 : decode cX2_append 21 = .ok (.getfield 18, 3) := by decide +kernel
theorem dX2_append_24 : decode cX2_append 24 = .ok (.aload_n 0, 1) := by decide +kernel
theorem dX2_append_25 : decode cX2_append 25 = .ok (.getfield 32, 3) := by decide +kernel
theorem dX2_append_28 : decode cX2_append 28 = .ok (.iload_n 3, 1) := by decide +kernel
theorem dX2_append_29 : decode cX2_append 29 = .ok (.iastore, 1) := by decide +kernel
theorem dX2_append_30 : decode cX2_append 30 = .ok (.aload_n 0, 1) := by decide +kernel
theorem dX2_append_31 : decode cX2_append 31 = .ok (.dup, 1) := by decide +kernel
theorem dX2_append_32 : decode cX2_append 32 = .ok (.getfield 32, 3) := by decide +kernel
theorem dX2_append_35 : decode cX2_append 35 = .ok (.iconst 1, 1) := by decide +kernel
theorem dX2_append_36 : decode cX2_append 36 = .ok (.iadd, 1) := by decide +kernel
theorem dX2_append_37 : decode cX2_append 37 = .ok (.putfield 32, 3) := by decide +kernel
theorem dX2_append_40 : decode cX2_append 40 = .ok (.return_, 1) := by decide +kernel
theorem dX2_empty_0 : decode cX2_empty 0 = .ok (.iconst 0, 1) := by decide +kernel
theorem dX2_empty_1 : decode cX2_empty 1 = .ok (.istore_n 1, 1) := by decide +kernel
theorem dX2_empty_2 : decode cX2_empty 2 = .ok (.iload_n 1, 1) := by decide +kernel
