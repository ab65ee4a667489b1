theorem dX2_empty_3 : decode cX2_empty 3 = .ok (.aload_n 0, 1) := by decide +kernel
theorem dX2_empty_4 : decode cX2_empty 4 = .ok (.getfield 32, 3) := by decide +kernel
theorem dX2_empty_7 : decode cX2_empty 7 = .ok (.if_icmp .ge 16, 3) := by decide +kernel
theorem dX2_empty_10 : decode cX2_empty 10 = .ok (.aload_n 0, 1) := by decide +kernel
theorem dX2_empty_11 : decode cX2_empty 11 = .ok (.getfield 21, 3) := by decide +kernel
theorem dX2_empty_14 : decode cX2_empty 14 = .ok (.iload_n 1, 1) := by decide +kernel
theorem dX2_empty_15 : decode cX2_empty 15 = .ok (.iconst 0, 1) := by decide +kernel
theorem dX2_empty_16 : decode cX2_empty 16 = .ok (.bastore, 1) := by decide +kernel
theorem dX2_empty_17 : decode cX2_empty 17 = .ok (.iinc 1 1, 3) := by decide +kernel
theorem dX2_empty_20 : decode cX2_empty 20 = .ok (.goto (-18), 3) := by decide +kernel
theorem dX2_empty_23 : decode cX2_empty 23 = .ok (.aload_n 0, 1) := by decide +kernel
theorem dX2_empty_24 : decode cX2_empty 24 = .ok (.iconst 0, 1) := by decide +kernel
theorem dX2_empty_25 : decode cX2_empty 25 = .ok (.putfield 32, 3) := by decide +kernel
theorem dX2_empty_28 : decode cX2_empty 28 = .ok (.return_, 1) := by decide +kernel
theorem dX3_init_0 : decode cX3_init 0 = .ok (.aload_n 0, 1) := by decide +kernel
theorem dX3_init_1 : decode cX3_init 1 = .ok (.invokespecial 3, 3) := by decide +kernel
theorem dX3_init_4 : decode cX3_init 4 = .ok (.aload_n 0, 1) := by decide +kernel
theorem dX3_init_5 : decode cX3_init 5 = .ok (.bipush 64, 2) := by decide +kernel
theorem dX3_init_7 : decode cX3_init 7 = .ok (.newarray .int, 2) := by decide +kernel
theorem dX3_init_9 : decode cX3_init 9 = .ok (.putfield 9, 3) := by decide +kernel
theorem dX3_init_12 : decode cX3_init 12 = .ok (.aload_n 0, 1) := by decide +kernel
theorem dX3_init_13 : decode cX3_init 13 = .ok (.sipush 128, 3) := by decide +kernel
theorem dX3_init_16 : decode cX3_init 16 = .ok (.newarray .int, 2) := by decide +kernel
theorem dX3_init_18 : decode cX3_init 18 = .ok (.putfield 15, 3) := by decide +kernel
theorem dX3_init_21 : decode cX3_init 21 = .ok (.aload_n 0, 1) := by decide +kernel
theorem dX3_init_22 : decode cX3_init 22 = .ok (.bipush 16, 2) := by decide +kernel
theorem dX3_init_24 : decode cX3_init 24 = .ok (.newarray .int, 2) := by decide +kernel
theorem dX3_init_26 : decode cX3_init 26 = .ok (.putfield 18, 3) := by decide +kernel
theorem dX3_init_29 : decode cX3_init 29 = .ok (.aload_n 0, 1) := by decide +kernel
theorem dX3_init_30 : decode cX3_init 30 = .ok (.iconst 1, 1) := by decide +kernel
theorem dX3_init_31 : decode cX3_init 31 = .ok (.putfield 21, 3) := by decide +kernel
theorem dX3_init_34 : decode cX3_init 34 = .ok (.return_, 1) := by decide +kernel
theorem dX3_hasFrame_0 : decode cX3_hasFrame 0 = .ok (.iload_n 1, 1) := by decide +kernel
theorem dX3_hasFrame_1 : decode cX3_hasFrame 1 = .ok (.ifCond .lt 15, 3) := by decide +kernel
theorem dX3_hasFrame_4 : decode cX3_hasFrame 4 = .ok (.iload_n 1, 1) := by decide +kernel
theorem dX3_hasFrame_5 : decode cX3_hasFrame 5 = .ok (.aload_n 0, 1) := by decide +kernel
theorem dX3_hasFrame_6 : decode cX3_hasFrame 6 = .ok (.getfield 21, 3) := by decide +kernel
theorem dX3_hasFrame_9 : decode cX3_hasFrame 9 = .ok (.if_icmp .ge 7, 3) := by decide +kernel
theorem dX3_hasFrame_12 : decode cX3_hasFrame 12 = .ok (.iconst 1, 1) := by decide +kernel
theorem dX3_hasFrame_13 : decode cX3_hasFrame 13 = .ok (.goto 4, 3) := by decide +kernel
theorem dX3_hasFrame_16 : decode cX3_hasFrame 16 = .ok (.iconst 0, 1) := by decide +kernel
theorem dX3_hasFrame_17 : decode cX3_hasFrame 17 = .ok (.ireturn, 1) := by decide +kernel
theorem dX3_reset_0 : decode cX3_reset 0 = .ok (.iconst 0, 1) := by decide +kernel
theorem dX3_reset_1 : decode cX3_reset 1 = .ok (.istore_n 1, 1) := by decide +kernel
theorem dX3_reset_2 : decode cX3_reset 2 = .ok (.iload_n 1, 1) := by decide +kernel
theorem dX3_reset_3 : decode cX3_reset 3 = .ok (.aload_n 0, 1) := by decide +kernel
theorem dX3_reset_4 : decode cX3_reset 4 = .ok (.getfield 9, 3) := by decide +kernel
theorem dX3_reset_7 : decode cX3_reset 7 = .ok (.arraylength, 1) := by decide +kernel
theorem dX3_reset_8 : decode cX3_reset 8 = .ok (.if_icmp .ge 16, 3) := by decide +kernel
theorem dX3_reset_11 : decode cX3_reset 11 = .ok (.aload_n 0, 1) := by decide +kernel
theorem dX3_reset_12 : decode cX3_reset 12 = .ok (.getfield 9, 3) := by decide +kernel
theorem dX3_reset_15 : decode cX3_reset 15 = .ok (.iload_n 1, 1) := by decide +kernel
theorem dX3_reset_16 : decode cX3_reset 16 = .ok (.iconst 0, 1) := by decide +kernel
theorem dX3_reset_17 : decode cX3_reset 17 = .ok (.iastore, 1) := by decide +kernel
theorem dX3_reset_18 : decode cX3_reset 18 = .ok (.iinc 1 1, 3) := by decide +kernel
theorem dX3_reset_21 : decode cX3_reset 21 = .ok (.goto (-19), 3) := by decide +kernel
theorem dX3_reset_24 : decode cX3_reset 24 = .ok (.iconst 0, 1) := by decide +kernel
theorem dX3_reset_25 : decode cX3_reset 25 = .ok (.istore_n 1, 1) := by decide +kernel
theorem dX3_reset_26 : decode cX3_reset 26 = .ok (.iload_n 1, 1) := by decide +kernel
theorem dX3_reset_27 : decode cX3_reset 27 = .ok (.aload_n 0, 1) := by decide +kernel
theorem dX3_reset_28 : decode cX3_reset 28 = .ok (.getfield 15, 3) := by decide +kernel
theorem dX3_reset_31 : decode cX3_reset 31 = .ok (.arraylength, 1) := by decide +kernel
theorem dX3_reset_32 : decode cX3_reset 32 = .ok (.if_icmp .ge 16, 3) := by decide +kernel
theorem dX3_reset_35 : decode cX3_reset 35 = .ok (.aload_n 0, 1) := by decide +kernel
theorem dX3_reset_36 : decode cX3_reset 36 = .ok (.getfield 15, 3) := by decide +kernel
theorem dX3_reset_39 : decode cX3_reset 39 = .ok (.iload_n 1, 1) := by decide +kernel
theorem dX3_reset_40 : decode cX3_reset 40 = .ok (.iconst 0, 1) := by decide +kernel
theorem dX3_reset_41 : decode cX3_reset 41 = .ok (.iastore, 1) := by decide +kernel
theorem dX3_reset_42 : decode cX3_reset 42 = .ok (.iinc 1 1, 3) := by decide +kernel
theorem dX3_reset_45 : decode cX3_reset 45 = .ok (.goto (-19), 3) := by decide +kernel
theorem dX3_reset_48 : decode cX3_reset 48 = .ok (.iconst 0, 1) := by decide +kernel
theorem dX3_reset_49 : decode cX3_reset 49 = .ok (.istore_n 1, 1) := by decide +kernel
theorem dX3_reset_50 : decode cX3_reset 50 = .ok (.iload_n 1, 1) := by decide +kernel
theorem dX3_reset_51 : decode cX3_reset 51 = .ok (.aload_n 0, 1) := by decide +kernel
theorem dX3_reset_52 : decode cX3_reset 52 = .ok (.getfield 18, 3) := by decide +kernel
theorem dX3_reset_55 : decode cX3_reset 55 = .ok (.arraylength, 1) := by decide +kernel
theorem dX3_reset_56 : decode cX3_reset 56 = .ok (.if_icmp .ge 16, 3) := by decide +kernel
theorem dX3_reset_59 : decode cX3_reset 59 = .ok (.aload_n 0, 1) := by decide +kernel
theorem dX3_reset_60 : decode cX3_reset 60 = .ok (.getfield 18, 3) := by decide +kernel
theorem dX3_reset_63 : decode cX3_reset 63 = .ok (.iload_n 1, 1) := by decide +kernel
theorem dX3_reset_64 : decode cX3_reset 64 = .ok (.iconst 0, 1) := by decide +kernel
theorem dX3_reset_65 : decode cX3_reset 65 = .ok (.iastore, 1) := by decide +kernel
theorem dX3_reset_66 : decode cX3_reset 66 = .ok (.iinc 1 1, 3) := by decide +kernel
theorem dX3_reset_69 : decode cX3_reset 69 = .ok (.goto (-19), 3) := by decide +kernel
theorem dX3_reset_72 : decode cX3_reset 72 = .ok (.aload_n 0, 1) := by decide +kernel
theorem dX3_reset_73 : decode cX3_reset 73 = .ok (.iconst 1, 1) := by decide +kernel
theorem dX3_reset_74 : decode cX3_reset 74 = .ok (.putfield 21, 3) := by decide +kernel
theorem dX3_reset_77 : decode cX3_reset 77 = .ok (.aload_n 0, 1) := by decide +kernel
theorem dX3_reset_78 : decode cX3_reset 78 = .ok (.iconst 0, 1) := by decide +kernel
theorem dX3_reset_79 : decode cX3_reset 79 = .ok (.putfield 25, 3) := by decide +kernel
theorem dX3_reset_82 : decode cX3_reset 82 = .ok (.aload_n 0, 1) := by decide +kernel
theorem dX3_reset_83 : decode cX3_reset 83 = .ok (.iconst 0, 1) := by decide +kernel
theorem dX3_reset_84 : decode cX3_reset 84 = .ok (.putfield 28, 3) := by decide +kernel
theorem dX3_reset_87 : decode cX3_reset 87 = .ok (.aload_n 0, 1) := by decide +kernel
theorem dX3_reset_88 : decode cX3_reset 88 = .ok (.iconst 0, 1) := by decide +kernel
theorem dX3_reset_89 : decode cX3_reset 89 = .ok (.putfield 31, 3) := by decide +kernel
theorem dX3_reset_92 : decode cX3_reset 92 = .ok (.return_, 1) := by decide +kernel
theorem dX3_copyFrom_0 : decode cX3_copyFrom 0 = .ok (.aload_n 1, 1) := by decide +kernel
theorem dX3_copyFrom_1 : decode cX3_copyFrom 1 = .ok (.getfield 9, 3) := by decide +kernel
theorem dX3_copyFrom_4 : decode cX3_copyFrom 4 = .ok (.iconst 0, 1) := by decide +kernel
theorem dX3_copyFrom_5 : decode cX3_copyFrom 5 = .ok (.aload_n 0, 1) := by decide +kernel
theorem dX3_copyFrom_6 : decode cX3_copyFrom 6 = .ok (.getfield 9, 3) := by decide +kernel
theorem dX3_copyFrom_9 : decode cX3_copyFrom 9 = .ok (.iconst 0, 1) := by decide +kernel
theorem dX3_copyFrom_10 : decode cX3_copyFrom 10 = .ok (.aload_n 0, 1) := by decide +kernel
theorem dX3_copyFrom_11 : decode cX3_copyFrom 11 = .ok (.getfield 9, 3) := by decide +kernel
theorem dX3_copyFrom_14 : decode cX3_copyFrom 14 = .ok (.arraylength, 1) := by decide +kernel
theorem dX3_copyFrom_15 : decode cX3_copyFrom 15 = .ok (.invokestatic 35, 3) := by decide +kernel
theorem dX3_copyFrom_18 : decode cX3_copyFrom 18 = .ok (.aload_n 1, 1) := by decide +kernel
theorem dX3_copyFrom_19 : decode cX3_copyFrom 19 = .ok (.getfield 15, 3) := by decide +kernel
theorem dX3_copyFrom_22 : decode cX3_copyFrom 22 = .ok (.iconst 0, 1) := by decide +kernel
theorem dX3_copyFrom_23 : decode cX3_copyFrom 23 = .ok (.aload_n 0, 1) := by decide +kernel
theorem dX3_copyFrom_24 : decode cX3_copyFrom 24 = .ok (.getfield 15, 3) := by decide +kernel
theorem dX3_copyFrom_27 : decode cX3_copyFrom 27 = .ok (.iconst 0, 1) := by decide +kernel
theorem dX3_copyFrom_28 : decode cX3_copyFrom 28 = .ok (.aload_n 0, 1) := by decide +kernel
theorem dX3_copyFrom_29 : decode cX3_copyFrom 29 = .ok (.getfield 15, 3) := by decide +kernel
theorem dX3_copyFrom_32 : decode cX3_copyFrom 32 = .ok (.arraylength, 1) := by decide +kernel
theorem dX3_copyFrom_33 : decode cX3_copyFrom 33 = .ok (.invokestatic 35, 3) := by decide +kernel
theorem dX3_copyFrom_36 : decode cX3_copyFrom 36 = .ok (.aload_n 1, 1) := by decide +kernel
theorem dX3_copyFrom_37 : decode cX3_copyFrom 37 = .ok (.getfield 18, 3) := by decide +kernel
theorem dX3_copyFrom_40 : decode cX3_copyFrom 40 = .ok (.iconst 0, 1) := by decide +kernel
theorem dX3_copyFrom_41 : decode cX3_copyFrom 41 = .ok (.aload_n 0, 1) := by decide +kernel
theorem dX3_copyFrom_42 : decode cX3_copyFrom 42 = .ok (.getfield 18, 3) := by decide +kernel
theorem dX3_copyFrom_45 : decode cX3_copyFrom 45 = .ok (.iconst 0, 1) := by decide +kernel
theorem dX3_copyFrom_46 : decode cX3_copyFrom 46 = .ok (.aload_n 0, 1) := by decide +kernel
theorem dX3_copyFrom_47 : decode cX3_copyFrom 47 = .ok (.getfield 18, 3) := by decide +kernel
theorem dX3_copyFrom_50 : decode cX3_copyFrom 50 = .ok (.arraylength, 1) := by decide +kernel
theorem dX3_copyFrom_51 : decode cX3_copyFrom 51 = .ok (.invokestatic 35, 3) := by decide +kernel
theorem dX3_copyFrom_54 : decode cX3_copyFrom 54 = .ok (.aload_n 0, 1) := by decide +kernel
theorem dX3_copyFrom_55 : decode cX3_copyFrom 55 = .ok (.aload_n 1, 1) := by decide +kernel
theorem dX3_copyFrom_56 : decode cX3_copyFrom 56 = .ok (.getfield 21, 3) := by decide +kernel
theorem dX3_copyFrom_59 : decode cX3_copyFrom 59 = .ok (.putfield 21, 3) := by decide +kernel
theorem dX3_copyFrom_62 : decode cX3_copyFrom 62 = .ok (.aload_n 0, 1) := by decide +kernel
theorem dX3_copyFrom_63 : decode cX3_copyFrom 63 = .ok (.aload_n 1, 1) := by decide +kernel
theorem dX3_copyFrom_64 : decode cX3_copyFrom 64 = .ok (.getfield 25, 3) := by decide +kernel
theorem dX3_copyFrom_67 : decode cX3_copyFrom 67 = .ok (.putfield 25, 3) := by decide +kernel
theorem dX3_copyFrom_70 : decode cX3_copyFrom 70 = .ok (.aload_n 0, 1) := by decide +kernel
theorem dX3_copyFrom_71 : decode cX3_copyFrom 71 = .ok (.aload_n 1, 1) := by decide +kernel
theorem dX3_copyFrom_72 : decode cX3_copyFrom 72 = .ok (.getfield 28, 3) := by decide +kernel
theorem dX3_copyFrom_75 : decode cX3_copyFrom 75 = .ok (.putfield 28, 3) := by decide +kernel
theorem dX3_copyFrom_78 : decode cX3_copyFrom 78 = .ok (.aload_n 0, 1) := by decide +kernel
theorem dX3_copyFrom_79 : decode cX3_copyFrom 79 = .ok (.aload_n 1, 1) := by decide +kernel
theorem dX3_copyFrom_80 : decode cX3_copyFrom 80 = .ok (.getfield 31, 3) := by decide +kernel
theorem dX3_copyFrom_83 : decode cX3_copyFrom 83 = .ok (.putfield 31, 3) := by decide +kernel
theorem dX3_copyFrom_86 : decode cX3_copyFrom 86 = .ok (.return_, 1) := by decide +kernel
theorem dX4_init_0 : decode cX4_init 0 = .ok (.aload_n 0, 1) := by decide +kernel
theorem dX4_init_1 : decode cX4_init 1 = .ok (.invokespecial 1, 3) := by decide +kernel
theorem dX4_init_4 : decode cX4_init 4 = .ok (.aload_n 0, 1) := by decide +kernel
theorem dX4_init_5 : decode cX4_init 5 = .ok (.new 7, 3) := by decide +kernel
theorem dX4_init_8 : decode cX4_init 8 = .ok (.dup, 1) := by decide +kernel
theorem dX4_init_9 : decode cX4_init 9 = .ok (.invokespecial 9, 3) := by decide +kernel
theorem dX4_init_12 : decode cX4_init 12 = .ok (.putfield 10, 3) := by decide +kernel
theorem dX4_init_15 : decode cX4_init 15 = .ok (.aload_n 0, 1) := by decide +kernel
theorem dX4_init_16 : decode cX4_init 16 = .ok (.new 16, 3) := by decide +kernel
theorem dX4_init_19 : decode cX4_init 19 = .ok (.dup, 1) := by decide +kernel
theorem dX4_init_20 : decode cX4_init 20 = .ok (.invokespecial 18, 3) := by decide +kernel
theorem dX4_init_23 : decode cX4_init 23 = .ok (.putfield 19, 3) := by decide +kernel
theorem dX4_init_26 : decode cX4_init 26 = .ok (.aload_n 0, 1) := by decide +kernel
theorem dX4_init_27 : decode cX4_init 27 = .ok (.aload_n 0, 1) := by decide +kernel
theorem dX4_init_28 : decode cX4_init 28 = .ok (.getfield 19, 3) := by decide +kernel
theorem dX4_init_31 : decode cX4_init 31 = .ok (.getfield 23, 3) := by decide +kernel
theorem dX4_init_34 : decode cX4_init 34 = .ok (.putfield 27, 3) := by decide +kernel
theorem dX4_init_37 : decode cX4_init 37 = .ok (.aload_n 0, 1) := by decide +kernel
theorem dX4_init_38 : decode cX4_init 38 = .ok (.bipush 64, 2) := by decide +kernel
theorem dX4_init_40 : decode cX4_init 40 = .ok (.newarray .boolean, 2) := by decide +kernel
theorem dX4_init_42 : decode cX4_init 42 = .ok (.putfield 28, 3) := by decide +kernel
theorem dX4_init_45 : decode cX4_init 45 = .ok (.aload_n 0, 1) := by decide +kernel
theorem dX4_init_46 : decode cX4_init 46 = .ok (.new 32, 3) := by decide +kernel
theorem dX4_init_49 : decode cX4_init 49 = .ok (.dup, 1) := by decide +kernel
theorem dX4_init_50 : decode cX4_init 50 = .ok (.iconst 1, 1) := by decide +kernel
theorem dX4_init_51 : decode cX4_init 51 = .ok (.bipush 100, 2) := by decide +kernel
theorem dX4_init_53 : decode cX4_init 53 = .ok (.iload_n 1, 1) := by decide +kernel
theorem dX4_init_54 : decode cX4_init 54 = .ok (.invokestatic 34, 3) := by decide +kernel
theorem dX4_init_57 : decode cX4_init 57 = .ok (.invokestatic 40, 3) := by decide +kernel
theorem dX4_init_60 : decode cX4_init 60 = .ok (.invokespecial 43, 3) := by decide +kernel
theorem dX4_init_63 : decode cX4_init 63 = .ok (.putfield 46, 3) := by decide +kernel
theorem dX4_init_66 : decode cX4_init 66 = .ok (.return_, 1) := by decide +kernel
theorem dX4_line_0 : decode cX4_line 0 = .ok (.iload_n 1, 1) := by decide +kernel
theorem dX4_line_1 : decode cX4_line 1 = .ok (.iload_n 2, 1) := by decide +kernel
theorem dX4_line_2 : decode cX4_line 2 = .ok (.iload_n 3, 1) := by decide +kernel
theorem dX4_line_3 : decode cX4_line 3 = .ok (.invokestatic 50, 3) := by decide +kernel
theorem dX4_line_6 : decode cX4_line 6 = .ok (.ifCond .ne 11, 3) := by decide +kernel
theorem dX4_line_9 : decode cX4_line 9 = .ok (.new 54, 3) := by decide +kernel
theorem dX4_line_12 : decode cX4_line 12 = .ok (.dup, 1) := by decide +kernel
theorem dX4_line_13 : decode cX4_line 13 = .ok (.invokespecial 56, 3) := by decide +kernel
theorem dX4_line_16 : decode cX4_line 16 = .ok (.athrow, 1) := by decide +kernel
theorem dX4_line_17 : decode cX4_line 17 = .ok (.aload_n 0, 1) := by decide +kernel
theorem dX4_line_18 : decode cX4_line 18 = .ok (.getfield 27, 3) := by decide +kernel
theorem dX4_line_21 : decode cX4_line 21 = .ok (.getfield 57, 3) := by decide +kernel
theorem dX4_line_24 : decode cX4_line 24 = .ok (.ifCond .eq 11, 3) := by decide +kernel
theorem dX4_line_27 : decode cX4_line 27 = .ok (.new 63, 3) := by decide +kernel
theorem dX4_line_30 : decode cX4_line 30 = .ok (.dup, 1) := by decide +kernel
theorem dX4_line_31 : decode cX4_line 31 = .ok (.invokespecial 65, 3) := by decide +kernel
theorem dX4_line_34 : decode cX4_line 34 = .ok (.athrow, 1) := by decide +kernel
theorem dX4_line_35 : decode cX4_line 35 = .ok (.aload_n 0, 1) := by decide +kernel
theorem dX4_line_36 : decode cX4_line 36 = .ok (.getfield 10, 3) := by decide +kernel
theorem dX4_line_39 : decode cX4_line 39 = .ok (.getfield 66, 3) := by decide +kernel
theorem dX4_line_42 : decode cX4_line 42 = .ok (.bipush 80, 2) := by decide +kernel
theorem dX4_line_44 : decode cX4_line 44 = .ok (.if_icmp .ne 11, 3) := by decide +kernel
theorem dX4_line_47 : decode cX4_line 47 = .ok (.new 69, 3) := by decide +kernel
theorem dX4_line_50 : decode cX4_line 50 = .ok (.dup, 1) := by decide +kernel
theorem dX4_line_51 : decode cX4_line 51 = .ok (.invokespecial 71, 3) := by decide +kernel
theorem dX4_line_54 : decode cX4_line 54 = .ok (.athrow, 1) := by decide +kernel
theorem dX4_line_55 : decode cX4_line 55 = .ok (.aload_n 0, 1) := by decide +kernel
theorem dX4_line_56 : decode cX4_line 56 = .ok (.getfield 10, 3) := by decide +kernel
theorem dX4_line_59 : decode cX4_line 59 = .ok (.iload_n 1, 1) := by decide +kernel
theorem dX4_line_60 : decode cX4_line 60 = .ok (.iload_n 2, 1) := by decide +kernel
theorem dX4_line_61 : decode cX4_line 61 = .ok (.iload_n 3, 1) := by decide +kernel
theorem dX4_line_62 : decode cX4_line 62 = .ok (.invokevirtual 72, 3) := by decide +kernel
theorem dX4_line_65 : decode cX4_line 65 = .ok (.aload_n 0, 1) := by decide +kernel
theorem dX4_line_66 : decode cX4_line 66 = .ok (.getfield 46, 3) := by decide +kernel
theorem dX4_line_69 : decode cX4_line 69 = .ok (.aload_n 0, 1) := by decide +kernel
theorem dX4_line_70 : decode cX4_line 70 = .ok (.getfield 27, 3) := by decide +kernel
theorem dX4_line_73 : decode cX4_line 73 = .ok (.invokevirtual 76, 3) := by decide +kernel
theorem dX4_line_76 : decode cX4_line 76 = .ok (.aload_n 0, 1) := by decide +kernel
theorem dX4_line_77 : decode cX4_line 77 = .ok (.getfield 10, 3) := by decide +kernel
theorem dX4_line_80 : decode cX4_line 80 = .ok (.getfield 66, 3) := by decide +kernel
theorem dX4_line_83 : decode cX4_line 83 = .ok (.iconst 1, 1) := by decide +kernel
theorem dX4_line_84 : decode cX4_line 84 = .ok (.isub, 1) := by decide +kernel
theorem dX4_line_85 : decode cX4_line 85 = .ok (.ireturn, 1) := by decide +kernel
theorem dX4_poke_0 : decode cX4_poke 0 = .ok (.iload_n 1, 1) := by decide +kernel
theorem dX4_poke_1 : decode cX4_poke 1 = .ok (.invokestatic 80, 3) := by decide +kernel
theorem dX4_poke_4 : decode cX4_poke 4 = .ok (.ifCond .ne 11, 3) := by decide +kernel
theorem dX4_poke_7 : decode cX4_poke 7 = .ok (.new 84, 3) := by decide +kernel
theorem dX4_poke_10 : decode cX4_poke 10 = .ok (.dup, 1) := by decide +kernel
theorem dX4_poke_11 : decode cX4_poke 11 = .ok (.invokespecial 86, 3) := by decide +kernel
theorem dX4_poke_14 : decode cX4_poke 14 = .ok (.athrow, 1) := by decide +kernel
theorem dX4_poke_15 : decode cX4_poke 15 = .ok (.aload_n 0, 1) := by decide +kernel
theorem dX4_poke_16 : decode cX4_poke 16 = .ok (.getfield 27, 3) := by decide +kernel
theorem dX4_poke_19 : decode cX4_poke 19 = .ok (.getfield 57, 3) := by decide +kernel
theorem dX4_poke_22 : decode cX4_poke 22 = .ok (.ifCond .eq 11, 3) := by decide +kernel
theorem dX4_poke_25 : decode cX4_poke 25 = .ok (.new 63, 3) := by decide +kernel
theorem dX4_poke_28 : decode cX4_poke 28 = .ok (.dup, 1) := by decide +kernel
theorem dX4_poke_29 : decode cX4_poke 29 = .ok (.invokespecial 65, 3) := by decide +kernel
theorem dX4_poke_32 : decode cX4_poke 32 = .ok (.athrow, 1) := by decide +kernel
theorem dX4_poke_33 : decode cX4_poke 33 = .ok (.aload_n 0, 1) := by decide +kernel
theorem dX4_poke_34 : decode cX4_poke 34 = .ok (.getfield 27, 3) := by decide +kernel
theorem dX4_poke_37 : decode cX4_poke 37 = .ok (.getfield 87, 3) := by decide +kernel
theorem dX4_poke_40 : decode cX4_poke 40 = .ok (.iload_n 1, 1) := by decide +kernel
theorem dX4_poke_41 : decode cX4_poke 41 = .ok (.iaload, 1) := by decide +kernel
theorem dX4_poke_42 : decode cX4_poke 42 = .ok (.istore_n 3, 1) := by decide +kernel
theorem dX4_poke_43 : decode cX4_poke 43 = .ok (.aload_n 0, 1) := by decide +kernel
theorem dX4_poke_44 : decode cX4_poke 44 = .ok (.getfield 27, 3) := by decide +kernel
theorem dX4_poke_47 : decode cX4_poke 47 = .ok (.getfield 87, 3) := by decide +kernel
theorem dX4_poke_50 : decode cX4_poke 50 = .ok (.iload_n 1, 1) := by decide +kernel
theorem dX4_poke_51 : decode cX4_poke 51 = .ok (.iload_n 2, 1) := by decide +kernel
theorem dX4_poke_52 : decode cX4_poke 52 = .ok (.iastore, 1) := by decide +kernel
theorem dX4_poke_53 : decode cX4_poke 53 = .ok (.aload_n 0, 1) := by decide +kernel
theorem dX4_poke_54 : decode cX4_poke 54 = .ok (.getfield 46, 3) := by decide +kernel
theorem dX4_poke_57 : decode cX4_poke 57 = .ok (.aload_n 0, 1) := by decide +kernel
theorem dX4_poke_58 : decode cX4_poke 58 = .ok (.getfield 27, 3) := by decide +kernel
theorem dX4_poke_61 : decode cX4_poke 61 = .ok (.invokevirtual 76, 3) := by decide +kernel
theorem dX4_poke_64 : decode cX4_poke 64 = .ok (.iload_n 3, 1) := by decide +kernel
theorem dX4_poke_65 : decode cX4_poke 65 = .ok (.ireturn, 1) := by decide +kernel
theorem dX4_mark_0 : decode cX4_mark 0 = .ok (.aload_n 0, 1) := by decide +kernel
theorem dX4_mark_1 : decode cX4_mark 1 = .ok (.getfield 10, 3) := by decide +kernel
theorem dX4_mark_4 : decode cX4_mark 4 = .ok (.iload_n 1, 1) := by decide +kernel
theorem dX4_mark_5 : decode cX4_mark 5 = .ok (.invokevirtual 91, 3) := by decide +kernel
theorem dX4_mark_8 : decode cX4_mark 8 = .ok (.ifCond .ne 11, 3) := by decide +kernel
theorem dX4_mark_11 : decode cX4_mark 11 = .ok (.new 84, 3) := by decide +kernel
theorem dX4_mark_14 : decode cX4_mark 14 = .ok (.dup, 1) := by decide +kernel
theorem dX4_mark_15 : decode cX4_mark 15 = .ok (.invokespecial 86, 3) := by decide +kernel
theorem dX4_mark_18 : decode cX4_mark 18 = .ok (.athrow, 1) := by decide +kernel
theorem dX4_mark_19 : decode cX4_mark 19 = .ok (.aload_n 0, 1) := by decide +kernel
theorem dX4_mark_20 : decode cX4_mark 20 = .ok (.getfield 10, 3) := by decide +kernel
theorem dX4_mark_23 : decode cX4_mark 23 = .ok (.getfield 94, 3) := by decide +kernel
theorem dX4_mark_26 : decode cX4_mark 26 = .ok (.iload_n 1, 1) := by decide +kernel
theorem dX4_mark_27 : decode cX4_mark 27 = .ok (.baload, 1) := by decide +kernel
theorem dX4_mark_28 : decode cX4_mark 28 = .ok (.iload_n 2, 1) := by decide +kernel
theorem dX4_mark_29 : decode cX4_mark 29 = .ok (.if_icmp .eq 7, 3) := by decide +kernel
theorem dX4_mark_32 : decode cX4_mark 32 = .ok (.iconst 1, 1) := by decide +kernel
theorem dX4_mark_33 : decode cX4_mark 33 = .ok (.goto 4, 3) := by decide +kernel
theorem dX4_mark_36 : decode cX4_mark 36 = .ok (.iconst 0, 1) := by decide +kernel
theorem dX4_mark_37 : decode cX4_mark 37 = .ok (.istore_n 3, 1) := by decide +kernel
theorem dX4_mark_38 : decode cX4_mark 38 = .ok (.aload_n 0, 1) := by decide +kernel
theorem dX4_mark_39 : decode cX4_mark 39 = .ok (.getfield 10, 3) := by decide +kernel
theorem dX4_mark_42 : decode cX4_mark 42 = .ok (.getfield 94, 3) := by decide +kernel
theorem dX4_mark_45 : decode cX4_mark 45 = .ok (.iload_n 1, 1) := by decide +kernel
theorem dX4_mark_46 : decode cX4_mark 46 = .ok (.iload_n 2, 1) := by decide +kernel
theorem dX4_mark_47 : decode cX4_mark 47 = .ok (.bastore, 1) := by decide +kernel
theorem dX4_mark_48 : decode cX4_mark 48 = .ok (.iload_n 3, 1) := by decide +kernel
theorem dX4_mark_49 : decode cX4_mark 49 = .ok (.ireturn, 1) := by decide +kernel
theorem dX4_watch_0 : decode cX4_watch 0 = .ok (.iload_n 1, 1) := by decide +kernel
theorem dX4_watch_1 : decode cX4_watch 1 = .ok (.invokestatic 80, 3) := by decide +kernel
theorem dX4_watch_4 : decode cX4_watch 4 = .ok (.ifCond .ne 11, 3) := by decide +kernel
theorem dX4_watch_7 : decode cX4_watch 7 = .ok (.new 84, 3) := by decide +kernel
theorem dX4_watch_10 : decode cX4_watch 10 = .ok (.dup, 1) := by decide +kernel
theorem dX4_watch_11 : decode cX4_watch 11 = .ok (.invokespecial 86, 3) := by decide +kernel
theorem dX4_watch_14 : decode cX4_watch 14 = .ok (.athrow, 1) := by decide +kernel
theorem dX4_watch_15 : decode cX4_watch 15 = .ok (.aload_n 0, 1) := by decide +kernel
theorem dX4_watch_16 : decode cX4_watch 16 = .ok (.getfield 28, 3) := by decide +kernel
theorem dX4_watch_19 : decode cX4_watch 19 = .ok (.iload_n 1, 1) := by decide +kernel
theorem dX4_watch_20 : decode cX4_watch 20 = .ok (.baload, 1) := by decide +kernel
theorem dX4_watch_21 : decode cX4_watch 21 = .ok (.iload_n 2, 1) := by decide +kernel
theorem dX4_watch_22 : decode cX4_watch 22 = .ok (.if_icmp .eq 7, 3) := by decide +kernel
theorem dX4_watch_25 : decode cX4_watch 25 = .ok (.iconst 1, 1) := by decide +kernel
theorem dX4_watch_26 : decode cX4_watch 26 = .ok (.goto 4, 3) := by decide +kernel
theorem dX4_watch_29 : decode cX4_watch 29 = .ok (.iconst 0, 1) := by decide +kernel
theorem dX4_watch_30 : decode cX4_watch 30 = .ok (.istore_n 3, 1) := by decide +kernel
theorem dX4_watch_31 : decode cX4_watch 31 = .ok (.aload_n 0, 1) := by decide +kernel
theorem dX4_watch_32 : decode cX4_watch 32 = .ok (.getfield 28, 3) := by decide +kernel
theorem dX4_watch_35 : decode cX4_watch 35 = .ok (.iload_n 1, 1) := by decide +kernel
theorem dX4_watch_36 : decode cX4_watch 36 = .ok (.iload_n 2, 1) := by decide +kernel
theorem dX4_watch_37 : decode cX4_watch 37 = .ok (.bastore, 1) := by decide +kernel
theorem dX4_watch_38 : decode cX4_watch 38 = .ok (.iload_n 3, 1) := by decide +kernel
theorem dX4_watch_39 : decode cX4_watch 39 = .ok (.ireturn, 1) := by decide +kernel
theorem dX4_step_0 : decode cX4_step 0 = .ok (.aload_n 0, 1) := by decide +kernel
theorem dX4_step_1 : decode cX4_step 1 = .ok (.invokevirtual 97, 3) := by decide +kernel
theorem dX4_step_4 : decode cX4_step 4 = .ok (.istore_n 1, 1) := by decide +kernel
theorem dX4_step_5 : decode cX4_step 5 = .ok (.iload_n 1, 1) := by decide +kernel
theorem dX4_step_6 : decode cX4_step 6 = .ok (.iconst 1, 1) := by decide +kernel
theorem dX4_step_7 : decode cX4_step 7 = .ok (.if_icmp .ne 7, 3) := by decide +kernel
theorem dX4_step_10 : decode cX4_step 10 = .ok (.iconst 0, 1) := by decide +kernel
theorem dX4_step_11 : decode cX4_step 11 = .ok (.goto 4, 3) := by decide +kernel
theorem dX4_step_14 : decode cX4_step 14 = .ok (.iload_n 1, 1) := by decide +kernel
theorem dX4_step_15 : decode cX4_step 15 = .ok (.ireturn, 1) := by decide +kernel
theorem dX4_next_0 : decode cX4_next 0 = .ok (.aload_n 0, 1) := by decide +kernel
theorem dX4_next_1 : decode cX4_next 1 = .ok (.aload_n 0, 1) := by decide +kernel
theorem dX4_next_2 : decode cX4_next 2 = .ok (.getfield 27, 3) := by decide +kernel
theorem dX4_next_5 : decode cX4_next 5 = .ok (.getfield 101, 3) := by decide +kernel
theorem dX4_next_8 : decode cX4_next 8 = .ok (.invokevirtual 104, 3) := by decide +kernel
theorem dX4_next_11 : decode cX4_next 11 = .ok (.ireturn, 1) := by decide +kernel
theorem dX4_finish_0 : decode cX4_finish 0 = .ok (.aload_n 0, 1) := by decide +kernel
theorem dX4_finish_1 : decode cX4_finish 1 = .ok (.aload_n 0, 1) := by decide +kernel
theorem dX4_finish_2 : decode cX4_finish 2 = .ok (.getfield 27, 3) := by decide +kernel
theorem dX4_finish_5 : decode cX4_finish 5 = .ok (.getfield 101, 3) := by decide +kernel
theorem dX4_finish_8 : decode cX4_finish 8 = .ok (.iconst 1, 1) := by decide +kernel
theorem dX4_finish_9 : decode cX4_finish 9 = .ok (.isub, 1) := by decide +kernel
theorem dX4_finish_10 : decode cX4_finish 10 = .ok (.invokevirtual 104, 3) := by decide +kernel
theorem dX4_finish_13 : decode cX4_finish 13 = .ok (.ireturn, 1) := by decide +kernel
theorem dX4_go_0 : decode cX4_go 0 = .ok (.aload_n 0, 1) := by decide +kernel
