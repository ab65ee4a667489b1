theorem dX4_go_1 : decode cX4_go 1 = .ok (.iconst 0, 1) := by decide +kernel
theorem dX4_go_2 : decode cX4_go 2 = .ok (.invokevirtual 104, 3) := by decide +kernel
theorem dX4_go_5 : decode cX4_go 5 = .ok (.ireturn, 1) := by decide +kernel
theorem dX4_back_0 : decode cX4_back 0 = .ok (.aload_n 0, 1) := by decide +kernel
theorem dX4_back_1 : decode cX4_back 1 = .ok (.getfield 27, 3) := by decide +kernel
theorem dX4_back_4 : decode cX4_back 4 = .ok (.getfield 57, 3) := by decide +kernel
theorem dX4_back_7 : decode cX4_back 7 = .ok (.ifCond .ne 11, 3) := by decide +kernel
theorem dX4_back_10 : decode cX4_back 10 = .ok (.aload_n 0, 1) := by decide +kernel
theorem dX4_back_11 : decode cX4_back 11 = .ok (.iconst 0, 1) := by decide +kernel
theorem dX4_back_12 : decode cX4_back 12 = .ok (.putfield 108, 3) := by decide +kernel
theorem dX4_back_15 : decode cX4_back 15 = .ok (.bipush 6, 2) := by decide +kernel
theorem dX4_back_17 : decode cX4_back 17 = .ok (.ireturn, 1) := by decide +kernel
theorem dX4_back_18 : decode cX4_back 18 = .ok (.aload_n 0, 1) := by decide +kernel
theorem dX4_back_19 : decode cX4_back 19 = .ok (.aload_n 0, 1) := by decide +kernel
theorem dX4_back_20 : decode cX4_back 20 = .ok (.getfield 27, 3) := by decide +kernel
theorem dX4_back_23 : decode cX4_back 23 = .ok (.getfield 57, 3) := by decide +kernel
theorem dX4_back_26 : decode cX4_back 26 = .ok (.iconst 1, 1) := by decide +kernel
theorem dX4_back_27 : decode cX4_back 27 = .ok (.isub, 1) := by decide +kernel
theorem dX4_back_28 : decode cX4_back 28 = .ok (.invokevirtual 112, 3) := by decide +kernel
theorem dX4_back_31 : decode cX4_back 31 = .ok (.iconst 0, 1) := by decide +kernel
theorem dX4_back_32 : decode cX4_back 32 = .ok (.ireturn, 1) := by decide +kernel
theorem dX4_reverse_0 : decode cX4_reverse 0 = .ok (.aload_n 0, 1) := by decide +kernel
theorem dX4_reverse_1 : decode cX4_reverse 1 = .ok (.getfield 27, 3) := by decide +kernel
theorem dX4_reverse_4 : decode cX4_reverse 4 = .ok (.getfield 57, 3) := by decide +kernel
theorem dX4_reverse_7 : decode cX4_reverse 7 = .ok (.iconst 1, 1) := by decide +kernel
theorem dX4_reverse_8 : decode cX4_reverse 8 = .ok (.isub, 1) := by decide +kernel
theorem dX4_reverse_9 : decode cX4_reverse 9 = .ok (.istore_n 1, 1) := by decide +kernel
theorem dX4_reverse_10 : decode cX4_reverse 10 = .ok (.iconst 0, 1) := by decide +kernel
theorem dX4_reverse_11 : decode cX4_reverse 11 = .ok (.istore_n 2, 1) := by decide +kernel
theorem dX4_reverse_12 : decode cX4_reverse 12 = .ok (.aload_n 0, 1) := by decide +kernel
theorem dX4_reverse_13 : decode cX4_reverse 13 = .ok (.getfield 46, 3) := by decide +kernel
theorem dX4_reverse_16 : decode cX4_reverse 16 = .ok (.iload_n 1, 1) := by decide +kernel
theorem dX4_reverse_17 : decode cX4_reverse 17 = .ok (.invokevirtual 115, 3) := by decide +kernel
theorem dX4_reverse_20 : decode cX4_reverse 20 = .ok (.istore_n 3, 1) := by decide +kernel
theorem dX4_reverse_21 : decode cX4_reverse 21 = .ok (.iload_n 3, 1) := by decide +kernel
theorem dX4_reverse_22 : decode cX4_reverse 22 = .ok (.ifCond .lt 33, 3) := by decide +kernel
theorem dX4_reverse_25 : decode cX4_reverse 25 = .ok (.iload_n 2, 1) := by decide +kernel
theorem dX4_reverse_26 : decode cX4_reverse 26 = .ok (.ifCond .ne 29, 3) := by decide +kernel
theorem dX4_reverse_29 : decode cX4_reverse 29 = .ok (.aload_n 0, 1) := by decide +kernel
theorem dX4_reverse_30 : decode cX4_reverse 30 = .ok (.iload_n 3, 1) := by decide +kernel
theorem dX4_reverse_31 : decode cX4_reverse 31 = .ok (.iload_n 1, 1) := by decide +kernel
theorem dX4_reverse_32 : decode cX4_reverse 32 = .ok (.invokevirtual 118, 3) := by decide +kernel
theorem dX4_reverse_35 : decode cX4_reverse 35 = .ok (.istore_n 2, 1) := by decide +kernel
theorem dX4_reverse_36 : decode cX4_reverse 36 = .ok (.aload_n 0, 1) := by decide +kernel
theorem dX4_reverse_37 : decode cX4_reverse 37 = .ok (.getfield 46, 3) := by decide +kernel
theorem dX4_reverse_40 : decode cX4_reverse 40 = .ok (.getfield 121, 3) := by decide +kernel
theorem dX4_reverse_43 : decode cX4_reverse 43 = .ok (.iload_n 3, 1) := by decide +kernel
theorem dX4_reverse_44 : decode cX4_reverse 44 = .ok (.aaload, 1) := by decide +kernel
theorem dX4_reverse_45 : decode cX4_reverse 45 = .ok (.getfield 57, 3) := by decide +kernel
theorem dX4_reverse_48 : decode cX4_reverse 48 = .ok (.istore_n 1, 1) := by decide +kernel
theorem dX4_reverse_49 : decode cX4_reverse 49 = .ok (.iinc 3 (-1), 3) := by decide +kernel
theorem dX4_reverse_52 : decode cX4_reverse 52 = .ok (.goto (-31), 3) := by decide +kernel
theorem dX4_reverse_55 : decode cX4_reverse 55 = .ok (.iload_n 2, 1) := by decide +kernel
theorem dX4_reverse_56 : decode cX4_reverse 56 = .ok (.ifCond .ne 11, 3) := by decide +kernel
theorem dX4_reverse_59 : decode cX4_reverse 59 = .ok (.aload_n 0, 1) := by decide +kernel
theorem dX4_reverse_60 : decode cX4_reverse 60 = .ok (.iconst 0, 1) := by decide +kernel
theorem dX4_reverse_61 : decode cX4_reverse 61 = .ok (.invokevirtual 112, 3) := by decide +kernel
theorem dX4_reverse_64 : decode cX4_reverse 64 = .ok (.bipush 6, 2) := by decide +kernel
theorem dX4_reverse_66 : decode cX4_reverse 66 = .ok (.ireturn, 1) := by decide +kernel
theorem dX4_reverse_67 : decode cX4_reverse 67 = .ok (.aload_n 0, 1) := by decide +kernel
theorem dX4_reverse_68 : decode cX4_reverse 68 = .ok (.iload_n 2, 1) := by decide +kernel
theorem dX4_reverse_69 : decode cX4_reverse 69 = .ok (.iconst 1, 1) := by decide +kernel
theorem dX4_reverse_70 : decode cX4_reverse 70 = .ok (.isub, 1) := by decide +kernel
theorem dX4_reverse_71 : decode cX4_reverse 71 = .ok (.invokevirtual 112, 3) := by decide +kernel
theorem dX4_reverse_74 : decode cX4_reverse 74 = .ok (.aload_n 0, 1) := by decide +kernel
theorem dX4_reverse_75 : decode cX4_reverse 75 = .ok (.invokevirtual 97, 3) := by decide +kernel
theorem dX4_reverse_78 : decode cX4_reverse 78 = .ok (.ireturn, 1) := by decide +kernel
theorem dX4_goTo_0 : decode cX4_goTo 0 = .ok (.iload_n 1, 1) := by decide +kernel
theorem dX4_goTo_1 : decode cX4_goTo 1 = .ok (.ifCond .lt 10, 3) := by decide +kernel
theorem dX4_goTo_4 : decode cX4_goTo 4 = .ok (.iload_n 1, 1) := by decide +kernel
theorem dX4_goTo_5 : decode cX4_goTo 5 = .ok (.sipush 2000, 3) := by decide +kernel
theorem dX4_goTo_8 : decode cX4_goTo 8 = .ok (.if_icmp .le 11, 3) := by decide +kernel
theorem dX4_goTo_11 : decode cX4_goTo 11 = .ok (.new 54, 3) := by decide +kernel
theorem dX4_goTo_14 : decode cX4_goTo 14 = .ok (.dup, 1) := by decide +kernel
theorem dX4_goTo_15 : decode cX4_goTo 15 = .ok (.invokespecial 56, 3) := by decide +kernel
theorem dX4_goTo_18 : decode cX4_goTo 18 = .ok (.athrow, 1) := by decide +kernel
theorem dX4_goTo_19 : decode cX4_goTo 19 = .ok (.aload_n 0, 1) := by decide +kernel
theorem dX4_goTo_20 : decode cX4_goTo 20 = .ok (.iload_n 1, 1) := by decide +kernel
theorem dX4_goTo_21 : decode cX4_goTo 21 = .ok (.invokevirtual 112, 3) := by decide +kernel
theorem dX4_goTo_24 : decode cX4_goTo 24 = .ok (.aload_n 0, 1) := by decide +kernel
theorem dX4_goTo_25 : decode cX4_goTo 25 = .ok (.getfield 27, 3) := by decide +kernel
theorem dX4_goTo_28 : decode cX4_goTo 28 = .ok (.getfield 57, 3) := by decide +kernel
theorem dX4_goTo_31 : decode cX4_goTo 31 = .ok (.ireturn, 1) := by decide +kernel
theorem dX4_local_0 : decode cX4_local 0 = .ok (.aload_n 0, 1) := by decide +kernel
theorem dX4_local_1 : decode cX4_local 1 = .ok (.getfield 27, 3) := by decide +kernel
theorem dX4_local_4 : decode cX4_local 4 = .ok (.iload_n 1, 1) := by decide +kernel
theorem dX4_local_5 : decode cX4_local 5 = .ok (.invokevirtual 125, 3) := by decide +kernel
theorem dX4_local_8 : decode cX4_local 8 = .ok (.ifCond .eq 10, 3) := by decide +kernel
theorem dX4_local_11 : decode cX4_local 11 = .ok (.iload_n 2, 1) := by decide +kernel
theorem dX4_local_12 : decode cX4_local 12 = .ok (.invokestatic 128, 3) := by decide +kernel
theorem dX4_local_15 : decode cX4_local 15 = .ok (.ifCond .ne 11, 3) := by decide +kernel
theorem dX4_local_18 : decode cX4_local 18 = .ok (.new 84, 3) := by decide +kernel
theorem dX4_local_21 : decode cX4_local 21 = .ok (.dup, 1) := by decide +kernel
theorem dX4_local_22 : decode cX4_local 22 = .ok (.invokespecial 86, 3) := by decide +kernel
theorem dX4_local_25 : decode cX4_local 25 = .ok (.athrow, 1) := by decide +kernel
theorem dX4_local_26 : decode cX4_local 26 = .ok (.aload_n 0, 1) := by decide +kernel
theorem dX4_local_27 : decode cX4_local 27 = .ok (.getfield 27, 3) := by decide +kernel
theorem dX4_local_30 : decode cX4_local 30 = .ok (.getfield 131, 3) := by decide +kernel
theorem dX4_local_33 : decode cX4_local 33 = .ok (.aload_n 0, 1) := by decide +kernel
theorem dX4_local_34 : decode cX4_local 34 = .ok (.getfield 27, 3) := by decide +kernel
theorem dX4_local_37 : decode cX4_local 37 = .ok (.getfield 101, 3) := by decide +kernel
theorem dX4_local_40 : decode cX4_local 40 = .ok (.iconst 1, 1) := by decide +kernel
theorem dX4_local_41 : decode cX4_local 41 = .ok (.isub, 1) := by decide +kernel
theorem dX4_local_42 : decode cX4_local 42 = .ok (.iload_n 1, 1) := by decide +kernel
theorem dX4_local_43 : decode cX4_local 43 = .ok (.isub, 1) := by decide +kernel
theorem dX4_local_44 : decode cX4_local 44 = .ok (.bipush 8, 2) := by decide +kernel
theorem dX4_local_46 : decode cX4_local 46 = .ok (.imul, 1) := by decide +kernel
theorem dX4_local_47 : decode cX4_local 47 = .ok (.iload_n 2, 1) := by decide +kernel
theorem dX4_local_48 : decode cX4_local 48 = .ok (.iadd, 1) := by decide +kernel
theorem dX4_local_49 : decode cX4_local 49 = .ok (.iaload, 1) := by decide +kernel
theorem dX4_local_50 : decode cX4_local 50 = .ok (.ireturn, 1) := by decide +kernel
theorem dX4_at_0 : decode cX4_at 0 = .ok (.aload_n 0, 1) := by decide +kernel
theorem dX4_at_1 : decode cX4_at 1 = .ok (.getfield 27, 3) := by decide +kernel
theorem dX4_at_4 : decode cX4_at 4 = .ok (.iload_n 1, 1) := by decide +kernel
theorem dX4_at_5 : decode cX4_at 5 = .ok (.invokevirtual 125, 3) := by decide +kernel
theorem dX4_at_8 : decode cX4_at 8 = .ok (.ifCond .ne 11, 3) := by decide +kernel
theorem dX4_at_11 : decode cX4_at 11 = .ok (.new 84, 3) := by decide +kernel
theorem dX4_at_14 : decode cX4_at 14 = .ok (.dup, 1) := by decide +kernel
theorem dX4_at_15 : decode cX4_at 15 = .ok (.invokespecial 86, 3) := by decide +kernel
theorem dX4_at_18 : decode cX4_at 18 = .ok (.athrow, 1) := by decide +kernel
theorem dX4_at_19 : decode cX4_at 19 = .ok (.aload_n 0, 1) := by decide +kernel
theorem dX4_at_20 : decode cX4_at 20 = .ok (.getfield 27, 3) := by decide +kernel
theorem dX4_at_23 : decode cX4_at 23 = .ok (.getfield 134, 3) := by decide +kernel
theorem dX4_at_26 : decode cX4_at 26 = .ok (.aload_n 0, 1) := by decide +kernel
theorem dX4_at_27 : decode cX4_at 27 = .ok (.getfield 27, 3) := by decide +kernel
theorem dX4_at_30 : decode cX4_at 30 = .ok (.getfield 101, 3) := by decide +kernel
theorem dX4_at_33 : decode cX4_at 33 = .ok (.iconst 1, 1) := by decide +kernel
theorem dX4_at_34 : decode cX4_at 34 = .ok (.isub, 1) := by decide +kernel
theorem dX4_at_35 : decode cX4_at 35 = .ok (.iload_n 1, 1) := by decide +kernel
theorem dX4_at_36 : decode cX4_at 36 = .ok (.isub, 1) := by decide +kernel
theorem dX4_at_37 : decode cX4_at 37 = .ok (.iaload, 1) := by decide +kernel
theorem dX4_at_38 : decode cX4_at 38 = .ok (.ireturn, 1) := by decide +kernel
theorem dX4_cell_0 : decode cX4_cell 0 = .ok (.iload_n 1, 1) := by decide +kernel
theorem dX4_cell_1 : decode cX4_cell 1 = .ok (.invokestatic 80, 3) := by decide +kernel
theorem dX4_cell_4 : decode cX4_cell 4 = .ok (.ifCond .ne 11, 3) := by decide +kernel
theorem dX4_cell_7 : decode cX4_cell 7 = .ok (.new 84, 3) := by decide +kernel
theorem dX4_cell_10 : decode cX4_cell 10 = .ok (.dup, 1) := by decide +kernel
theorem dX4_cell_11 : decode cX4_cell 11 = .ok (.invokespecial 86, 3) := by decide +kernel
theorem dX4_cell_14 : decode cX4_cell 14 = .ok (.athrow, 1) := by decide +kernel
theorem dX4_cell_15 : decode cX4_cell 15 = .ok (.aload_n 0, 1) := by decide +kernel
theorem dX4_cell_16 : decode cX4_cell 16 = .ok (.getfield 27, 3) := by decide +kernel
theorem dX4_cell_19 : decode cX4_cell 19 = .ok (.getfield 87, 3) := by decide +kernel
theorem dX4_cell_22 : decode cX4_cell 22 = .ok (.iload_n 1, 1) := by decide +kernel
theorem dX4_cell_23 : decode cX4_cell 23 = .ok (.iaload, 1) := by decide +kernel
theorem dX4_cell_24 : decode cX4_cell 24 = .ok (.ireturn, 1) := by decide +kernel
theorem dX4_output_0 : decode cX4_output 0 = .ok (.iload_n 1, 1) := by decide +kernel
theorem dX4_output_1 : decode cX4_output 1 = .ok (.ifCond .lt 14, 3) := by decide +kernel
theorem dX4_output_4 : decode cX4_output 4 = .ok (.iload_n 1, 1) := by decide +kernel
theorem dX4_output_5 : decode cX4_output 5 = .ok (.aload_n 0, 1) := by decide +kernel
theorem dX4_output_6 : decode cX4_output 6 = .ok (.getfield 27, 3) := by decide +kernel
theorem dX4_output_9 : decode cX4_output 9 = .ok (.getfield 137, 3) := by decide +kernel
theorem dX4_output_12 : decode cX4_output 12 = .ok (.if_icmp .lt 11, 3) := by decide +kernel
theorem dX4_output_15 : decode cX4_output 15 = .ok (.new 84, 3) := by decide +kernel
theorem dX4_output_18 : decode cX4_output 18 = .ok (.dup, 1) := by decide +kernel
theorem dX4_output_19 : decode cX4_output 19 = .ok (.invokespecial 86, 3) := by decide +kernel
theorem dX4_output_22 : decode cX4_output 22 = .ok (.athrow, 1) := by decide +kernel
theorem dX4_output_23 : decode cX4_output 23 = .ok (.aload_n 0, 1) := by decide +kernel
theorem dX4_output_24 : decode cX4_output 24 = .ok (.getfield 19, 3) := by decide +kernel
theorem dX4_output_27 : decode cX4_output 27 = .ok (.getfield 140, 3) := by decide +kernel
theorem dX4_output_30 : decode cX4_output 30 = .ok (.iload_n 1, 1) := by decide +kernel
theorem dX4_output_31 : decode cX4_output 31 = .ok (.iaload, 1) := by decide +kernel
theorem dX4_output_32 : decode cX4_output 32 = .ok (.ireturn, 1) := by decide +kernel
theorem dX4_kept_0 : decode cX4_kept 0 = .ok (.iload_n 1, 1) := by decide +kernel
theorem dX4_kept_1 : decode cX4_kept 1 = .ok (.ifCond .lt 14, 3) := by decide +kernel
theorem dX4_kept_4 : decode cX4_kept 4 = .ok (.iload_n 1, 1) := by decide +kernel
theorem dX4_kept_5 : decode cX4_kept 5 = .ok (.aload_n 0, 1) := by decide +kernel
theorem dX4_kept_6 : decode cX4_kept 6 = .ok (.getfield 46, 3) := by decide +kernel
theorem dX4_kept_9 : decode cX4_kept 9 = .ok (.getfield 143, 3) := by decide +kernel
theorem dX4_kept_12 : decode cX4_kept 12 = .ok (.if_icmp .lt 11, 3) := by decide +kernel
theorem dX4_kept_15 : decode cX4_kept 15 = .ok (.new 84, 3) := by decide +kernel
theorem dX4_kept_18 : decode cX4_kept 18 = .ok (.dup, 1) := by decide +kernel
theorem dX4_kept_19 : decode cX4_kept 19 = .ok (.invokespecial 86, 3) := by decide +kernel
theorem dX4_kept_22 : decode cX4_kept 22 = .ok (.athrow, 1) := by decide +kernel
theorem dX4_kept_23 : decode cX4_kept 23 = .ok (.aload_n 0, 1) := by decide +kernel
theorem dX4_kept_24 : decode cX4_kept 24 = .ok (.getfield 46, 3) := by decide +kernel
theorem dX4_kept_27 : decode cX4_kept 27 = .ok (.getfield 121, 3) := by decide +kernel
theorem dX4_kept_30 : decode cX4_kept 30 = .ok (.iload_n 1, 1) := by decide +kernel
theorem dX4_kept_31 : decode cX4_kept 31 = .ok (.aaload, 1) := by decide +kernel
theorem dX4_kept_32 : decode cX4_kept 32 = .ok (.getfield 57, 3) := by decide +kernel
theorem dX4_kept_35 : decode cX4_kept 35 = .ok (.ireturn, 1) := by decide +kernel
theorem dX4_told_0 : decode cX4_told 0 = .ok (.iload_n 1, 1) := by decide +kernel
theorem dX4_told_1 : decode cX4_told 1 = .ok (.tableswitch 118 0 6 #[43, 51, 59, 67, 75, 83, 91], 43) := by decide +kernel
theorem dX4_told_44 : decode cX4_told 44 = .ok (.aload_n 0, 1) := by decide +kernel
theorem dX4_told_45 : decode cX4_told 45 = .ok (.getfield 27, 3) := by decide +kernel
theorem dX4_told_48 : decode cX4_told 48 = .ok (.getfield 57, 3) := by decide +kernel
theorem dX4_told_51 : decode cX4_told 51 = .ok (.ireturn, 1) := by decide +kernel
theorem dX4_told_52 : decode cX4_told 52 = .ok (.aload_n 0, 1) := by decide +kernel
theorem dX4_told_53 : decode cX4_told 53 = .ok (.getfield 27, 3) := by decide +kernel
theorem dX4_told_56 : decode cX4_told 56 = .ok (.getfield 101, 3) := by decide +kernel
theorem dX4_told_59 : decode cX4_told 59 = .ok (.ireturn, 1) := by decide +kernel
theorem dX4_told_60 : decode cX4_told 60 = .ok (.aload_n 0, 1) := by decide +kernel
theorem dX4_told_61 : decode cX4_told 61 = .ok (.getfield 27, 3) := by decide +kernel
theorem dX4_told_64 : decode cX4_told 64 = .ok (.getfield 137, 3) := by decide +kernel
theorem dX4_told_67 : decode cX4_told 67 = .ok (.ireturn, 1) := by decide +kernel
theorem dX4_told_68 : decode cX4_told 68 = .ok (.aload_n 0, 1) := by decide +kernel
theorem dX4_told_69 : decode cX4_told 69 = .ok (.getfield 46, 3) := by decide +kernel
theorem dX4_told_72 : decode cX4_told 72 = .ok (.getfield 143, 3) := by decide +kernel
theorem dX4_told_75 : decode cX4_told 75 = .ok (.ireturn, 1) := by decide +kernel
theorem dX4_told_76 : decode cX4_told 76 = .ok (.aload_n 0, 1) := by decide +kernel
theorem dX4_told_77 : decode cX4_told 77 = .ok (.getfield 46, 3) := by decide +kernel
theorem dX4_told_80 : decode cX4_told 80 = .ok (.getfield 144, 3) := by decide +kernel
theorem dX4_told_83 : decode cX4_told 83 = .ok (.ireturn, 1) := by decide +kernel
theorem dX4_told_84 : decode cX4_told 84 = .ok (.aload_n 0, 1) := by decide +kernel
theorem dX4_told_85 : decode cX4_told 85 = .ok (.getfield 10, 3) := by decide +kernel
theorem dX4_told_88 : decode cX4_told 88 = .ok (.getfield 66, 3) := by decide +kernel
theorem dX4_told_91 : decode cX4_told 91 = .ok (.ireturn, 1) := by decide +kernel
theorem dX4_told_92 : decode cX4_told 92 = .ok (.aload_n 0, 1) := by decide +kernel
theorem dX4_told_93 : decode cX4_told 93 = .ok (.getfield 27, 3) := by decide +kernel
theorem dX4_told_96 : decode cX4_told 96 = .ok (.getfield 147, 3) := by decide +kernel
theorem dX4_told_99 : decode cX4_told 99 = .ok (.ifCond .eq 7, 3) := by decide +kernel
theorem dX4_told_102 : decode cX4_told 102 = .ok (.iconst 1, 1) := by decide +kernel
theorem dX4_told_103 : decode cX4_told 103 = .ok (.goto 15, 3) := by decide +kernel
theorem dX4_told_106 : decode cX4_told 106 = .ok (.aload_n 0, 1) := by decide +kernel
theorem dX4_told_107 : decode cX4_told 107 = .ok (.getfield 108, 3) := by decide +kernel
theorem dX4_told_110 : decode cX4_told 110 = .ok (.ifCond .eq 7, 3) := by decide +kernel
theorem dX4_told_113 : decode cX4_told 113 = .ok (.iconst 2, 1) := by decide +kernel
theorem dX4_told_114 : decode cX4_told 114 = .ok (.goto 4, 3) := by decide +kernel
theorem dX4_told_117 : decode cX4_told 117 = .ok (.iconst 0, 1) := by decide +kernel
theorem dX4_told_118 : decode cX4_told 118 = .ok (.ireturn, 1) := by decide +kernel
theorem dX4_told_119 : decode cX4_told 119 = .ok (.iconst (-1), 1) := by decide +kernel
theorem dX4_told_120 : decode cX4_told 120 = .ok (.ireturn, 1) := by decide +kernel
theorem dX4_clear_0 : decode cX4_clear 0 = .ok (.aload_n 0, 1) := by decide +kernel
theorem dX4_clear_1 : decode cX4_clear 1 = .ok (.getfield 10, 3) := by decide +kernel
theorem dX4_clear_4 : decode cX4_clear 4 = .ok (.invokevirtual 150, 3) := by decide +kernel
theorem dX4_clear_7 : decode cX4_clear 7 = .ok (.iconst 0, 1) := by decide +kernel
theorem dX4_clear_8 : decode cX4_clear 8 = .ok (.istore_n 1, 1) := by decide +kernel
theorem dX4_clear_9 : decode cX4_clear 9 = .ok (.iload_n 1, 1) := by decide +kernel
theorem dX4_clear_10 : decode cX4_clear 10 = .ok (.bipush 64, 2) := by decide +kernel
theorem dX4_clear_12 : decode cX4_clear 12 = .ok (.if_icmp .ge 16, 3) := by decide +kernel
theorem dX4_clear_15 : decode cX4_clear 15 = .ok (.aload_n 0, 1) := by decide +kernel
theorem dX4_clear_16 : decode cX4_clear 16 = .ok (.getfield 28, 3) := by decide +kernel
theorem dX4_clear_19 : decode cX4_clear 19 = .ok (.iload_n 1, 1) := by decide +kernel
theorem dX4_clear_20 : decode cX4_clear 20 = .ok (.iconst 0, 1) := by decide +kernel
theorem dX4_clear_21 : decode cX4_clear 21 = .ok (.bastore, 1) := by decide +kernel
theorem dX4_clear_22 : decode cX4_clear 22 = .ok (.iinc 1 1, 3) := by decide +kernel
theorem dX4_clear_25 : decode cX4_clear 25 = .ok (.goto (-16), 3) := by decide +kernel
theorem dX4_clear_28 : decode cX4_clear 28 = .ok (.aload_n 0, 1) := by decide +kernel
theorem dX4_clear_29 : decode cX4_clear 29 = .ok (.getfield 27, 3) := by decide +kernel
theorem dX4_clear_32 : decode cX4_clear 32 = .ok (.invokevirtual 153, 3) := by decide +kernel
theorem dX4_clear_35 : decode cX4_clear 35 = .ok (.aload_n 0, 1) := by decide +kernel
theorem dX4_clear_36 : decode cX4_clear 36 = .ok (.getfield 46, 3) := by decide +kernel
theorem dX4_clear_39 : decode cX4_clear 39 = .ok (.aload_n 0, 1) := by decide +kernel
theorem dX4_clear_40 : decode cX4_clear 40 = .ok (.getfield 27, 3) := by decide +kernel
theorem dX4_clear_43 : decode cX4_clear 43 = .ok (.invokevirtual 76, 3) := by decide +kernel
theorem dX4_clear_46 : decode cX4_clear 46 = .ok (.aload_n 0, 1) := by decide +kernel
theorem dX4_clear_47 : decode cX4_clear 47 = .ok (.iconst 0, 1) := by decide +kernel
theorem dX4_clear_48 : decode cX4_clear 48 = .ok (.putfield 108, 3) := by decide +kernel
theorem dX4_clear_51 : decode cX4_clear 51 = .ok (.return_, 1) := by decide +kernel
theorem dX4_isCell_0 : decode cX4_isCell 0 = .ok (.iload_n 0, 1) := by decide +kernel
theorem dX4_isCell_1 : decode cX4_isCell 1 = .ok (.ifCond .lt 13, 3) := by decide +kernel
theorem dX4_isCell_4 : decode cX4_isCell 4 = .ok (.iload_n 0, 1) := by decide +kernel
theorem dX4_isCell_5 : decode cX4_isCell 5 = .ok (.bipush 64, 2) := by decide +kernel
theorem dX4_isCell_7 : decode cX4_isCell 7 = .ok (.if_icmp .ge 7, 3) := by decide +kernel
theorem dX4_isCell_10 : decode cX4_isCell 10 = .ok (.iconst 1, 1) := by decide +kernel
theorem dX4_isCell_11 : decode cX4_isCell 11 = .ok (.goto 4, 3) := by decide +kernel
theorem dX4_isCell_14 : decode cX4_isCell 14 = .ok (.iconst 0, 1) := by decide +kernel
theorem dX4_isCell_15 : decode cX4_isCell 15 = .ok (.ireturn, 1) := by decide +kernel
theorem dX4_isLocal_0 : decode cX4_isLocal 0 = .ok (.iload_n 0, 1) := by decide +kernel
theorem dX4_isLocal_1 : decode cX4_isLocal 1 = .ok (.ifCond .lt 13, 3) := by decide +kernel
theorem dX4_isLocal_4 : decode cX4_isLocal 4 = .ok (.iload_n 0, 1) := by decide +kernel
theorem dX4_isLocal_5 : decode cX4_isLocal 5 = .ok (.bipush 8, 2) := by decide +kernel
theorem dX4_isLocal_7 : decode cX4_isLocal 7 = .ok (.if_icmp .ge 7, 3) := by decide +kernel
theorem dX4_isLocal_10 : decode cX4_isLocal 10 = .ok (.iconst 1, 1) := by decide +kernel
theorem dX4_isLocal_11 : decode cX4_isLocal 11 = .ok (.goto 4, 3) := by decide +kernel
theorem dX4_isLocal_14 : decode cX4_isLocal 14 = .ok (.iconst 0, 1) := by decide +kernel
theorem dX4_isLocal_15 : decode cX4_isLocal 15 = .ok (.ireturn, 1) := by decide +kernel
theorem dX4_advance_0 : decode cX4_advance 0 = .ok (.aload_n 0, 1) := by decide +kernel
theorem dX4_advance_1 : decode cX4_advance 1 = .ok (.getfield 108, 3) := by decide +kernel
theorem dX4_advance_4 : decode cX4_advance 4 = .ok (.ifCond .eq 5, 3) := by decide +kernel
theorem dX4_advance_7 : decode cX4_advance 7 = .ok (.iconst 4, 1) := by decide +kernel
theorem dX4_advance_8 : decode cX4_advance 8 = .ok (.ireturn, 1) := by decide +kernel
theorem dX4_advance_9 : decode cX4_advance 9 = .ok (.aload_n 0, 1) := by decide +kernel
theorem dX4_advance_10 : decode cX4_advance 10 = .ok (.getfield 27, 3) := by decide +kernel
theorem dX4_advance_13 : decode cX4_advance 13 = .ok (.getfield 147, 3) := by decide +kernel
theorem dX4_advance_16 : decode cX4_advance 16 = .ok (.ifCond .eq 5, 3) := by decide +kernel
theorem dX4_advance_19 : decode cX4_advance 19 = .ok (.iconst 3, 1) := by decide +kernel
theorem dX4_advance_20 : decode cX4_advance 20 = .ok (.ireturn, 1) := by decide +kernel
theorem dX4_advance_21 : decode cX4_advance 21 = .ok (.aload_n 0, 1) := by decide +kernel
theorem dX4_advance_22 : decode cX4_advance 22 = .ok (.getfield 27, 3) := by decide +kernel
theorem dX4_advance_25 : decode cX4_advance 25 = .ok (.getfield 57, 3) := by decide +kernel
theorem dX4_advance_28 : decode cX4_advance 28 = .ok (.sipush 2000, 3) := by decide +kernel
theorem dX4_advance_31 : decode cX4_advance 31 = .ok (.if_icmp .ne 5, 3) := by decide +kernel
theorem dX4_advance_34 : decode cX4_advance 34 = .ok (.iconst 5, 1) := by decide +kernel
theorem dX4_advance_35 : decode cX4_advance 35 = .ok (.ireturn, 1) := by decide +kernel
theorem dX4_advance_36 : decode cX4_advance 36 = .ok (.aload_n 0, 1) := by decide +kernel
theorem dX4_advance_37 : decode cX4_advance 37 = .ok (.getfield 19, 3) := by decide +kernel
theorem dX4_advance_40 : decode cX4_advance 40 = .ok (.aload_n 0, 1) := by decide +kernel
theorem dX4_advance_41 : decode cX4_advance 41 = .ok (.getfield 10, 3) := by decide +kernel
theorem dX4_advance_44 : decode cX4_advance 44 = .ok (.invokevirtual 156, 3) := by decide +kernel
theorem dX4_advance_47 : decode cX4_advance 47 = .ok (.ifCond .ne 10, 3) := by decide +kernel
theorem dX4_advance_50 : decode cX4_advance 50 = .ok (.aload_n 0, 1) := by decide +kernel
theorem dX4_advance_51 : decode cX4_advance 51 = .ok (.iconst 1, 1) := by decide +kernel
theorem dX4_advance_52 : decode cX4_advance 52 = .ok (.putfield 108, 3) := by decide +kernel
theorem dX4_advance_55 : decode cX4_advance 55 = .ok (.iconst 4, 1) := by decide +kernel
theorem dX4_advance_56 : decode cX4_advance 56 = .ok (.ireturn, 1) := by decide +kernel
theorem dX4_advance_57 : decode cX4_advance 57 = .ok (.aload_n 0, 1) := by decide +kernel
theorem dX4_advance_58 : decode cX4_advance 58 = .ok (.getfield 46, 3) := by decide +kernel
theorem dX4_advance_61 : decode cX4_advance 61 = .ok (.aload_n 0, 1) := by decide +kernel
theorem dX4_advance_62 : decode cX4_advance 62 = .ok (.getfield 27, 3) := by decide +kernel
theorem dX4_advance_65 : decode cX4_advance 65 = .ok (.invokevirtual 160, 3) := by decide +kernel
theorem dX4_advance_68 : decode cX4_advance 68 = .ok (.aload_n 0, 1) := by decide +kernel
theorem dX4_advance_69 : decode cX4_advance 69 = .ok (.getfield 27, 3) := by decide +kernel
theorem dX4_advance_72 : decode cX4_advance 72 = .ok (.getfield 147, 3) := by decide +kernel
theorem dX4_advance_75 : decode cX4_advance 75 = .ok (.ifCond .eq 5, 3) := by decide +kernel
theorem dX4_advance_78 : decode cX4_advance 78 = .ok (.iconst 3, 1) := by decide +kernel
theorem dX4_advance_79 : decode cX4_advance 79 = .ok (.ireturn, 1) := by decide +kernel
theorem dX4_advance_80 : decode cX4_advance 80 = .ok (.aload_n 0, 1) := by decide +kernel
theorem dX4_advance_81 : decode cX4_advance 81 = .ok (.getfield 19, 3) := by decide +kernel
theorem dX4_advance_84 : decode cX4_advance 84 = .ok (.getfield 163, 3) := by decide +kernel
theorem dX4_advance_87 : decode cX4_advance 87 = .ok (.iconst (-1), 1) := by decide +kernel
theorem dX4_advance_88 : decode cX4_advance 88 = .ok (.if_icmp .eq 20, 3) := by decide +kernel
theorem dX4_advance_91 : decode cX4_advance 91 = .ok (.aload_n 0, 1) := by decide +kernel
theorem dX4_advance_92 : decode cX4_advance 92 = .ok (.getfield 28, 3) := by decide +kernel
theorem dX4_advance_95 : decode cX4_advance 95 = .ok (.aload_n 0, 1) := by decide +kernel
theorem dX4_advance_96 : decode cX4_advance 96 = .ok (.getfield 19, 3) := by decide +kernel
theorem dX4_advance_99 : decode cX4_advance 99 = .ok (.getfield 163, 3) := by decide +kernel
theorem dX4_advance_102 : decode cX4_advance 102 = .ok (.baload, 1) := by decide +kernel
theorem dX4_advance_103 : decode cX4_advance 103 = .ok (.ifCond .eq 5, 3) := by decide +kernel
theorem dX4_advance_106 : decode cX4_advance 106 = .ok (.iconst 2, 1) := by decide +kernel
theorem dX4_advance_107 : decode cX4_advance 107 = .ok (.ireturn, 1) := by decide +kernel
theorem dX4_advance_108 : decode cX4_advance 108 = .ok (.aload_n 0, 1) := by decide +kernel
theorem dX4_advance_109 : decode cX4_advance 109 = .ok (.getfield 10, 3) := by decide +kernel
theorem dX4_advance_112 : decode cX4_advance 112 = .ok (.aload_n 0, 1) := by decide +kernel
theorem dX4_advance_113 : decode cX4_advance 113 = .ok (.getfield 27, 3) := by decide +kernel
theorem dX4_advance_116 : decode cX4_advance 116 = .ok (.getfield 134, 3) := by decide +kernel
theorem dX4_advance_119 : decode cX4_advance 119 = .ok (.aload_n 0, 1) := by decide +kernel
theorem dX4_advance_120 : decode cX4_advance 120 = .ok (.getfield 27, 3) := by decide +kernel
theorem dX4_advance_123 : decode cX4_advance 123 = .ok (.getfield 101, 3) := by decide +kernel
theorem dX4_advance_126 : decode cX4_advance 126 = .ok (.iconst 1, 1) := by decide +kernel
theorem dX4_advance_127 : decode cX4_advance 127 = .ok (.isub, 1) := by decide +kernel
