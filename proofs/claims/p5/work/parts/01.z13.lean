theorem dX0_init_0 : decode cX0_init 0 = .ok (.aload_n 0, 1) := by decide +kernel
theorem dX0_init_1 : decode cX0_init 1 = .ok (.invokespecial 3, 3) := by decide +kernel
theorem dX0_init_4 : decode cX0_init 4 = .ok (.aload_n 0, 1) := by decide +kernel
theorem dX0_init_5 : decode cX0_init 5 = .ok (.bipush 8, 2) := by decide +kernel
theorem dX0_init_7 : decode cX0_init 7 = .ok (.anewarray 9, 3) := by decide +kernel
theorem dX0_init_10 : decode cX0_init 10 = .ok (.putfield 11, 3) := by decide +kernel
theorem dX0_init_13 : decode cX0_init 13 = .ok (.aload_n 0, 1) := by decide +kernel
theorem dX0_init_14 : decode cX0_init 14 = .ok (.iconst 1, 1) := by decide +kernel
theorem dX0_init_15 : decode cX0_init 15 = .ok (.putfield 17, 3) := by decide +kernel
theorem dX0_init_18 : decode cX0_init 18 = .ok (.aload_n 0, 1) := by decide +kernel
theorem dX0_init_19 : decode cX0_init 19 = .ok (.iload_n 1, 1) := by decide +kernel
theorem dX0_init_20 : decode cX0_init 20 = .ok (.putfield 21, 3) := by decide +kernel
theorem dX0_init_23 : decode cX0_init 23 = .ok (.aload_n 0, 1) := by decide +kernel
theorem dX0_init_24 : decode cX0_init 24 = .ok (.iload_n 1, 1) := by decide +kernel
theorem dX0_init_25 : decode cX0_init 25 = .ok (.putfield 24, 3) := by decide +kernel
theorem dX0_init_28 : decode cX0_init 28 = .ok (.iconst 0, 1) := by decide +kernel
theorem dX0_init_29 : decode cX0_init 29 = .ok (.istore_n 2, 1) := by decide +kernel
theorem dX0_init_30 : decode cX0_init 30 = .ok (.iload_n 2, 1) := by decide +kernel
theorem dX0_init_31 : decode cX0_init 31 = .ok (.bipush 8, 2) := by decide +kernel
theorem dX0_init_33 : decode cX0_init 33 = .ok (.if_icmp .ge 22, 3) := by decide +kernel
theorem dX0_init_36 : decode cX0_init 36 = .ok (.aload_n 0, 1) := by decide +kernel
theorem dX0_init_37 : decode cX0_init 37 = .ok (.getfield 11, 3) := by decide +kernel
theorem dX0_init_40 : decode cX0_init 40 = .ok (.iload_n 2, 1) := by decide +kernel
theorem dX0_init_41 : decode cX0_init 41 = .ok (.new 9, 3) := by decide +kernel
theorem dX0_init_44 : decode cX0_init 44 = .ok (.dup, 1) := by decide +kernel
theorem dX0_init_45 : decode cX0_init 45 = .ok (.invokespecial 27, 3) := by decide +kernel
theorem dX0_init_48 : decode cX0_init 48 = .ok (.aastore, 1) := by decide +kernel
theorem dX0_init_49 : decode cX0_init 49 = .ok (.iinc 2 1, 3) := by decide +kernel
theorem dX0_init_52 : decode cX0_init 52 = .ok (.goto (-22), 3) := by decide +kernel
theorem dX0_init_55 : decode cX0_init 55 = .ok (.return_, 1) := by decide +kernel
theorem dX0_restart_0 : decode cX0_restart 0 = .ok (.aload_n 0, 1) := by decide +kernel
theorem dX0_restart_1 : decode cX0_restart 1 = .ok (.getfield 11, 3) := by decide +kernel
theorem dX0_restart_4 : decode cX0_restart 4 = .ok (.iconst 0, 1) := by decide +kernel
theorem dX0_restart_5 : decode cX0_restart 5 = .ok (.aaload, 1) := by decide +kernel
theorem dX0_restart_6 : decode cX0_restart 6 = .ok (.aload_n 1, 1) := by decide +kernel
theorem dX0_restart_7 : decode cX0_restart 7 = .ok (.invokevirtual 28, 3) := by decide +kernel
theorem dX0_restart_10 : decode cX0_restart 10 = .ok (.aload_n 0, 1) := by decide +kernel
theorem dX0_restart_11 : decode cX0_restart 11 = .ok (.iconst 1, 1) := by decide +kernel
theorem dX0_restart_12 : decode cX0_restart 12 = .ok (.putfield 17, 3) := by decide +kernel
theorem dX0_restart_15 : decode cX0_restart 15 = .ok (.aload_n 0, 1) := by decide +kernel
theorem dX0_restart_16 : decode cX0_restart 16 = .ok (.aload_n 0, 1) := by decide +kernel
theorem dX0_restart_17 : decode cX0_restart 17 = .ok (.getfield 21, 3) := by decide +kernel
theorem dX0_restart_20 : decode cX0_restart 20 = .ok (.putfield 24, 3) := by decide +kernel
theorem dX0_restart_23 : decode cX0_restart 23 = .ok (.aload_n 0, 1) := by decide +kernel
theorem dX0_restart_24 : decode cX0_restart 24 = .ok (.iconst 0, 1) := by decide +kernel
theorem dX0_restart_25 : decode cX0_restart 25 = .ok (.putfield 32, 3) := by decide +kernel
theorem dX0_restart_28 : decode cX0_restart 28 = .ok (.return_, 1) := by decide +kernel
theorem dX0_arrive_0 : decode cX0_arrive 0 = .ok (.aload_n 1, 1) := by decide +kernel
theorem dX0_arrive_1 : decode cX0_arrive 1 = .ok (.getfield 35, 3) := by decide +kernel
theorem dX0_arrive_4 : decode cX0_arrive 4 = .ok (.aload_n 0, 1) := by decide +kernel
theorem dX0_arrive_5 : decode cX0_arrive 5 = .ok (.getfield 32, 3) := by decide +kernel
theorem dX0_arrive_8 : decode cX0_arrive 8 = .ok (.if_icmp .gt 4, 3) := by decide +kernel
theorem dX0_arrive_11 : decode cX0_arrive 11 = .ok (.return_, 1) := by decide +kernel
theorem dX0_arrive_12 : decode cX0_arrive 12 = .ok (.aload_n 0, 1) := by decide +kernel
theorem dX0_arrive_13 : decode cX0_arrive 13 = .ok (.aload_n 1, 1) := by decide +kernel
theorem dX0_arrive_14 : decode cX0_arrive 14 = .ok (.getfield 35, 3) := by decide +kernel
theorem dX0_arrive_17 : decode cX0_arrive 17 = .ok (.putfield 32, 3) := by decide +kernel
theorem dX0_arrive_20 : decode cX0_arrive 20 = .ok (.aload_n 1, 1) := by decide +kernel
theorem dX0_arrive_21 : decode cX0_arrive 21 = .ok (.getfield 35, 3) := by decide +kernel
theorem dX0_arrive_24 : decode cX0_arrive 24 = .ok (.aload_n 0, 1) := by decide +kernel
theorem dX0_arrive_25 : decode cX0_arrive 25 = .ok (.getfield 24, 3) := by decide +kernel
theorem dX0_arrive_28 : decode cX0_arrive 28 = .ok (.irem, 1) := by decide +kernel
theorem dX0_arrive_29 : decode cX0_arrive 29 = .ok (.ifCond .eq 4, 3) := by decide +kernel
theorem dX0_arrive_32 : decode cX0_arrive 32 = .ok (.return_, 1) := by decide +kernel
theorem dX0_arrive_33 : decode cX0_arrive 33 = .ok (.aload_n 0, 1) := by decide +kernel
theorem dX0_arrive_34 : decode cX0_arrive 34 = .ok (.getfield 17, 3) := by decide +kernel
theorem dX0_arrive_37 : decode cX0_arrive 37 = .ok (.bipush 8, 2) := by decide +kernel
theorem dX0_arrive_39 : decode cX0_arrive 39 = .ok (.if_icmp .ne 7, 3) := by decide +kernel
theorem dX0_arrive_42 : decode cX0_arrive 42 = .ok (.aload_n 0, 1) := by decide +kernel
theorem dX0_arrive_43 : decode cX0_arrive 43 = .ok (.invokevirtual 38, 3) := by decide +kernel
theorem dX0_arrive_46 : decode cX0_arrive 46 = .ok (.aload_n 1, 1) := by decide +kernel
theorem dX0_arrive_47 : decode cX0_arrive 47 = .ok (.getfield 35, 3) := by decide +kernel
theorem dX0_arrive_50 : decode cX0_arrive 50 = .ok (.aload_n 0, 1) := by decide +kernel
theorem dX0_arrive_51 : decode cX0_arrive 51 = .ok (.getfield 24, 3) := by decide +kernel
theorem dX0_arrive_54 : decode cX0_arrive 54 = .ok (.irem, 1) := by decide +kernel
theorem dX0_arrive_55 : decode cX0_arrive 55 = .ok (.ifCond .eq 4, 3) := by decide +kernel
theorem dX0_arrive_58 : decode cX0_arrive 58 = .ok (.return_, 1) := by decide +kernel
theorem dX0_arrive_59 : decode cX0_arrive 59 = .ok (.aload_n 0, 1) := by decide +kernel
theorem dX0_arrive_60 : decode cX0_arrive 60 = .ok (.getfield 11, 3) := by decide +kernel
theorem dX0_arrive_63 : decode cX0_arrive 63 = .ok (.aload_n 0, 1) := by decide +kernel
theorem dX0_arrive_64 : decode cX0_arrive 64 = .ok (.getfield 17, 3) := by decide +kernel
theorem dX0_arrive_67 : decode cX0_arrive 67 = .ok (.aaload, 1) := by decide +kernel
theorem dX0_arrive_68 : decode cX0_arrive 68 = .ok (.aload_n 1, 1) := by decide +kernel
theorem dX0_arrive_69 : decode cX0_arrive 69 = .ok (.invokevirtual 28, 3) := by decide +kernel
theorem dX0_arrive_72 : decode cX0_arrive 72 = .ok (.aload_n 0, 1) := by decide +kernel
theorem dX0_arrive_73 : decode cX0_arrive 73 = .ok (.dup, 1) := by decide +kernel
theorem dX0_arrive_74 : decode cX0_arrive 74 = .ok (.getfield 17, 3) := by decide +kernel
theorem dX0_arrive_77 : decode cX0_arrive 77 = .ok (.iconst 1, 1) := by decide +kernel
theorem dX0_arrive_78 : decode cX0_arrive 78 = .ok (.iadd, 1) := by decide +kernel
theorem dX0_arrive_79 : decode cX0_arrive 79 = .ok (.putfield 17, 3) := by decide +kernel
theorem dX0_arrive_82 : decode cX0_arrive 82 = .ok (.return_, 1) := by decide +kernel
theorem dX0_thinOut_0 : decode cX0_thinOut 0 = .ok (.aload_n 0, 1) := by decide +kernel
theorem dX0_thinOut_1 : decode cX0_thinOut 1 = .ok (.getfield 17, 3) := by decide +kernel
theorem dX0_thinOut_4 : decode cX0_thinOut 4 = .ok (.iconst 1, 1) := by decide +kernel
theorem dX0_thinOut_5 : decode cX0_thinOut 5 = .ok (.iadd, 1) := by decide +kernel
theorem dX0_thinOut_6 : decode cX0_thinOut 6 = .ok (.iconst 2, 1) := by decide +kernel
theorem dX0_thinOut_7 : decode cX0_thinOut 7 = .ok (.idiv, 1) := by decide +kernel
theorem dX0_thinOut_8 : decode cX0_thinOut 8 = .ok (.istore_n 1, 1) := by decide +kernel
theorem dX0_thinOut_9 : decode cX0_thinOut 9 = .ok (.iconst 1, 1) := by decide +kernel
theorem dX0_thinOut_10 : decode cX0_thinOut 10 = .ok (.istore_n 2, 1) := by decide +kernel
theorem dX0_thinOut_11 : decode cX0_thinOut 11 = .ok (.iload_n 2, 1) := by decide +kernel
theorem dX0_thinOut_12 : decode cX0_thinOut 12 = .ok (.iload_n 1, 1) := by decide +kernel
theorem dX0_thinOut_13 : decode cX0_thinOut 13 = .ok (.if_icmp .ge 39, 3) := by decide +kernel
theorem dX0_thinOut_16 : decode cX0_thinOut 16 = .ok (.aload_n 0, 1) := by decide +kernel
theorem dX0_thinOut_17 : decode cX0_thinOut 17 = .ok (.getfield 11, 3) := by decide +kernel
theorem dX0_thinOut_20 : decode cX0_thinOut 20 = .ok (.iload_n 2, 1) := by decide +kernel
theorem dX0_thinOut_21 : decode cX0_thinOut 21 = .ok (.aaload, 1) := by decide +kernel
theorem dX0_thinOut_22 : decode cX0_thinOut 22 = .ok (.astore_n 3, 1) := by decide +kernel
theorem dX0_thinOut_23 : decode cX0_thinOut 23 = .ok (.aload_n 0, 1) := by decide +kernel
theorem dX0_thinOut_24 : decode cX0_thinOut 24 = .ok (.getfield 11, 3) := by decide +kernel
theorem dX0_thinOut_27 : decode cX0_thinOut 27 = .ok (.iload_n 2, 1) := by decide +kernel
theorem dX0_thinOut_28 : decode cX0_thinOut 28 = .ok (.aload_n 0, 1) := by decide +kernel
theorem dX0_thinOut_29 : decode cX0_thinOut 29 = .ok (.getfield 11, 3) := by decide +kernel
theorem dX0_thinOut_32 : decode cX0_thinOut 32 = .ok (.iconst 2, 1) := by decide +kernel
theorem dX0_thinOut_33 : decode cX0_thinOut 33 = .ok (.iload_n 2, 1) := by decide +kernel
theorem dX0_thinOut_34 : decode cX0_thinOut 34 = .ok (.imul, 1) := by decide +kernel
theorem dX0_thinOut_35 : decode cX0_thinOut 35 = .ok (.aaload, 1) := by decide +kernel
theorem dX0_thinOut_36 : decode cX0_thinOut 36 = .ok (.aastore, 1) := by decide +kernel
theorem dX0_thinOut_37 : decode cX0_thinOut 37 = .ok (.aload_n 0, 1) := by decide +kernel
theorem dX0_thinOut_38 : decode cX0_thinOut 38 = .ok (.getfield 11, 3) := by decide +kernel
theorem dX0_thinOut_41 : decode cX0_thinOut 41 = .ok (.iconst 2, 1) := by decide +kernel
theorem dX0_thinOut_42 : decode cX0_thinOut 42 = .ok (.iload_n 2, 1) := by decide +kernel
theorem dX0_thinOut_43 : decode cX0_thinOut 43 = .ok (.imul, 1) := by decide +kernel
theorem dX0_thinOut_44 : decode cX0_thinOut 44 = .ok (.aload_n 3, 1) := by decide +kernel
theorem dX0_thinOut_45 : decode cX0_thinOut 45 = .ok (.aastore, 1) := by decide +kernel
theorem dX0_thinOut_46 : decode cX0_thinOut 46 = .ok (.iinc 2 1, 3) := by decide +kernel
theorem dX0_thinOut_49 : decode cX0_thinOut 49 = .ok (.goto (-38), 3) := by decide +kernel
theorem dX0_thinOut_52 : decode cX0_thinOut 52 = .ok (.aload_n 0, 1) := by decide +kernel
theorem dX0_thinOut_53 : decode cX0_thinOut 53 = .ok (.iload_n 1, 1) := by decide +kernel
theorem dX0_thinOut_54 : decode cX0_thinOut 54 = .ok (.putfield 17, 3) := by decide +kernel
theorem dX0_thinOut_57 : decode cX0_thinOut 57 = .ok (.aload_n 0, 1) := by decide +kernel
theorem dX0_thinOut_58 : decode cX0_thinOut 58 = .ok (.iconst 2, 1) := by decide +kernel
theorem dX0_thinOut_59 : decode cX0_thinOut 59 = .ok (.aload_n 0, 1) := by decide +kernel
theorem dX0_thinOut_60 : decode cX0_thinOut 60 = .ok (.getfield 24, 3) := by decide +kernel
theorem dX0_thinOut_63 : decode cX0_thinOut 63 = .ok (.imul, 1) := by decide +kernel
theorem dX0_thinOut_64 : decode cX0_thinOut 64 = .ok (.putfield 24, 3) := by decide +kernel
theorem dX0_thinOut_67 : decode cX0_thinOut 67 = .ok (.return_, 1) := by decide +kernel
theorem dX0_latestUpTo_0 : decode cX0_latestUpTo 0 = .ok (.aload_n 0, 1) := by decide +kernel
theorem dX0_latestUpTo_1 : decode cX0_latestUpTo 1 = .ok (.getfield 17, 3) := by decide +kernel
theorem dX0_latestUpTo_4 : decode cX0_latestUpTo 4 = .ok (.iconst 1, 1) := by decide +kernel
theorem dX0_latestUpTo_5 : decode cX0_latestUpTo 5 = .ok (.isub, 1) := by decide +kernel
theorem dX0_latestUpTo_6 : decode cX0_latestUpTo 6 = .ok (.istore_n 2, 1) := by decide +kernel
theorem dX0_latestUpTo_7 : decode cX0_latestUpTo 7 = .ok (.iload_n 2, 1) := by decide +kernel
theorem dX0_latestUpTo_8 : decode cX0_latestUpTo 8 = .ok (.ifCond .lt 22, 3) := by decide +kernel
theorem dX0_latestUpTo_11 : decode cX0_latestUpTo 11 = .ok (.aload_n 0, 1) := by decide +kernel
theorem dX0_latestUpTo_12 : decode cX0_latestUpTo 12 = .ok (.getfield 11, 3) := by decide +kernel
theorem dX0_latestUpTo_15 : decode cX0_latestUpTo 15 = .ok (.iload_n 2, 1) := by decide +kernel
theorem dX0_latestUpTo_16 : decode cX0_latestUpTo 16 = .ok (.aaload, 1) := by decide +kernel
theorem dX0_latestUpTo_17 : decode cX0_latestUpTo 17 = .ok (.getfield 35, 3) := by decide +kernel
theorem dX0_latestUpTo_20 : decode cX0_latestUpTo 20 = .ok (.iload_n 1, 1) := by decide +kernel
theorem dX0_latestUpTo_21 : decode cX0_latestUpTo 21 = .ok (.if_icmp .le 9, 3) := by decide +kernel
theorem dX0_latestUpTo_24 : decode cX0_latestUpTo 24 = .ok (.iinc 2 (-1), 3) := by decide +kernel
theorem dX0_latestUpTo_27 : decode cX0_latestUpTo 27 = .ok (.goto (-20), 3) := by decide +kernel
theorem dX0_latestUpTo_30 : decode cX0_latestUpTo 30 = .ok (.iload_n 2, 1) := by decide +kernel
theorem dX0_latestUpTo_31 : decode cX0_latestUpTo 31 = .ok (.ireturn, 1) := by decide +kernel
theorem dX1_init_0 : decode cX1_init 0 = .ok (.aload_n 0, 1) := by decide +kernel
theorem dX1_init_1 : decode cX1_init 1 = .ok (.invokespecial 3, 3) := by decide +kernel
theorem dX1_init_4 : decode cX1_init 4 = .ok (.aload_n 0, 1) := by decide +kernel
theorem dX1_init_5 : decode cX1_init 5 = .ok (.new 9, 3) := by decide +kernel
theorem dX1_init_8 : decode cX1_init 8 = .ok (.dup, 1) := by decide +kernel
theorem dX1_init_9 : decode cX1_init 9 = .ok (.invokespecial 11, 3) := by decide +kernel
theorem dX1_init_12 : decode cX1_init 12 = .ok (.putfield 12, 3) := by decide +kernel
theorem dX1_init_15 : decode cX1_init 15 = .ok (.aload_n 0, 1) := by decide +kernel
theorem dX1_init_16 : decode cX1_init 16 = .ok (.sipush 200, 3) := by decide +kernel
theorem dX1_init_19 : decode cX1_init 19 = .ok (.newarray .int, 2) := by decide +kernel
theorem dX1_init_21 : decode cX1_init 21 = .ok (.putfield 18, 3) := by decide +kernel
theorem dX1_init_24 : decode cX1_init 24 = .ok (.aload_n 0, 1) := by decide +kernel
theorem dX1_init_25 : decode cX1_init 25 = .ok (.iconst (-1), 1) := by decide +kernel
theorem dX1_init_26 : decode cX1_init 26 = .ok (.putfield 22, 3) := by decide +kernel
theorem dX1_init_29 : decode cX1_init 29 = .ok (.return_, 1) := by decide +kernel
theorem dX1_doLine_0 : decode cX1_doLine 0 = .ok (.aload_n 0, 1) := by decide +kernel
theorem dX1_doLine_1 : decode cX1_doLine 1 = .ok (.iconst (-1), 1) := by decide +kernel
theorem dX1_doLine_2 : decode cX1_doLine 2 = .ok (.putfield 22, 3) := by decide +kernel
theorem dX1_doLine_5 : decode cX1_doLine 5 = .ok (.aload_n 0, 1) := by decide +kernel
theorem dX1_doLine_6 : decode cX1_doLine 6 = .ok (.getfield 12, 3) := by decide +kernel
theorem dX1_doLine_9 : decode cX1_doLine 9 = .ok (.getfield 26, 3) := by decide +kernel
theorem dX1_doLine_12 : decode cX1_doLine 12 = .ok (.aload_n 0, 1) := by decide +kernel
theorem dX1_doLine_13 : decode cX1_doLine 13 = .ok (.getfield 12, 3) := by decide +kernel
theorem dX1_doLine_16 : decode cX1_doLine 16 = .ok (.getfield 29, 3) := by decide +kernel
theorem dX1_doLine_19 : decode cX1_doLine 19 = .ok (.iconst 1, 1) := by decide +kernel
theorem dX1_doLine_20 : decode cX1_doLine 20 = .ok (.isub, 1) := by decide +kernel
theorem dX1_doLine_21 : decode cX1_doLine 21 = .ok (.iaload, 1) := by decide +kernel
theorem dX1_doLine_22 : decode cX1_doLine 22 = .ok (.istore_n 2, 1) := by decide +kernel
theorem dX1_doLine_23 : decode cX1_doLine 23 = .ok (.aload_n 1, 1) := by decide +kernel
theorem dX1_doLine_24 : decode cX1_doLine 24 = .ok (.iload_n 2, 1) := by decide +kernel
theorem dX1_doLine_25 : decode cX1_doLine 25 = .ok (.invokevirtual 32, 3) := by decide +kernel
theorem dX1_doLine_28 : decode cX1_doLine 28 = .ok (.ifCond .ne 5, 3) := by decide +kernel
theorem dX1_doLine_31 : decode cX1_doLine 31 = .ok (.iconst 0, 1) := by decide +kernel
theorem dX1_doLine_32 : decode cX1_doLine 32 = .ok (.ireturn, 1) := by decide +kernel
theorem dX1_doLine_33 : decode cX1_doLine 33 = .ok (.aload_n 0, 1) := by decide +kernel
theorem dX1_doLine_34 : decode cX1_doLine 34 = .ok (.aload_n 1, 1) := by decide +kernel
theorem dX1_doLine_35 : decode cX1_doLine 35 = .ok (.getfield 38, 3) := by decide +kernel
theorem dX1_doLine_38 : decode cX1_doLine 38 = .ok (.iload_n 2, 1) := by decide +kernel
theorem dX1_doLine_39 : decode cX1_doLine 39 = .ok (.iaload, 1) := by decide +kernel
theorem dX1_doLine_40 : decode cX1_doLine 40 = .ok (.aload_n 1, 1) := by decide +kernel
theorem dX1_doLine_41 : decode cX1_doLine 41 = .ok (.getfield 41, 3) := by decide +kernel
theorem dX1_doLine_44 : decode cX1_doLine 44 = .ok (.iload_n 2, 1) := by decide +kernel
theorem dX1_doLine_45 : decode cX1_doLine 45 = .ok (.iaload, 1) := by decide +kernel
theorem dX1_doLine_46 : decode cX1_doLine 46 = .ok (.aload_n 1, 1) := by decide +kernel
theorem dX1_doLine_47 : decode cX1_doLine 47 = .ok (.getfield 44, 3) := by decide +kernel
theorem dX1_doLine_50 : decode cX1_doLine 50 = .ok (.iload_n 2, 1) := by decide +kernel
theorem dX1_doLine_51 : decode cX1_doLine 51 = .ok (.iaload, 1) := by decide +kernel
theorem dX1_doLine_52 : decode cX1_doLine 52 = .ok (.invokevirtual 47, 3) := by decide +kernel
theorem dX1_doLine_55 : decode cX1_doLine 55 = .ok (.istore_n 3, 1) := by decide +kernel
theorem dX1_doLine_56 : decode cX1_doLine 56 = .ok (.iload_n 3, 1) := by decide +kernel
theorem dX1_doLine_57 : decode cX1_doLine 57 = .ok (.ifCond .eq 16, 3) := by decide +kernel
theorem dX1_doLine_60 : decode cX1_doLine 60 = .ok (.aload_n 0, 1) := by decide +kernel
theorem dX1_doLine_61 : decode cX1_doLine 61 = .ok (.getfield 12, 3) := by decide +kernel
theorem dX1_doLine_64 : decode cX1_doLine 64 = .ok (.dup, 1) := by decide +kernel
theorem dX1_doLine_65 : decode cX1_doLine 65 = .ok (.getfield 51, 3) := by decide +kernel
theorem dX1_doLine_68 : decode cX1_doLine 68 = .ok (.iconst 1, 1) := by decide +kernel
theorem dX1_doLine_69 : decode cX1_doLine 69 = .ok (.iadd, 1) := by decide +kernel
theorem dX1_doLine_70 : decode cX1_doLine 70 = .ok (.putfield 51, 3) := by decide +kernel
theorem dX1_doLine_73 : decode cX1_doLine 73 = .ok (.iload_n 3, 1) := by decide +kernel
theorem dX1_doLine_74 : decode cX1_doLine 74 = .ok (.ireturn, 1) := by decide +kernel
theorem dX1_perform_0 : decode cX1_perform 0 = .ok (.iload_n 1, 1) := by decide +kernel
theorem dX1_perform_1 : decode cX1_perform 1 = .ok (.tableswitch 261 0 11 #[63, 70, 87, 104, 121, 154, 192, 207, 213, 234, 241, 251], 63) := by decide +kernel
theorem dX1_perform_64 : decode cX1_perform 64 = .ok (.aload_n 0, 1) := by decide +kernel
theorem dX1_perform_65 : decode cX1_perform 65 = .ok (.iload_n 2, 1) := by decide +kernel
theorem dX1_perform_66 : decode cX1_perform 66 = .ok (.iload_n 3, 1) := by decide +kernel
theorem dX1_perform_67 : decode cX1_perform 67 = .ok (.invokevirtual 54, 3) := by decide +kernel
theorem dX1_perform_70 : decode cX1_perform 70 = .ok (.ireturn, 1) := by decide +kernel
theorem dX1_perform_71 : decode cX1_perform 71 = .ok (.aload_n 0, 1) := by decide +kernel
theorem dX1_perform_72 : decode cX1_perform 72 = .ok (.iload_n 2, 1) := by decide +kernel
theorem dX1_perform_73 : decode cX1_perform 73 = .ok (.aload_n 0, 1) := by decide +kernel
theorem dX1_perform_74 : decode cX1_perform 74 = .ok (.iload_n 2, 1) := by decide +kernel
theorem dX1_perform_75 : decode cX1_perform 75 = .ok (.invokevirtual 58, 3) := by decide +kernel
theorem dX1_perform_78 : decode cX1_perform 78 = .ok (.aload_n 0, 1) := by decide +kernel
theorem dX1_perform_79 : decode cX1_perform 79 = .ok (.iload_n 3, 1) := by decide +kernel
theorem dX1_perform_80 : decode cX1_perform 80 = .ok (.invokevirtual 58, 3) := by decide +kernel
theorem dX1_perform_83 : decode cX1_perform 83 = .ok (.iadd, 1) := by decide +kernel
theorem dX1_perform_84 : decode cX1_perform 84 = .ok (.invokevirtual 54, 3) := by decide +kernel
theorem dX1_perform_87 : decode cX1_perform 87 = .ok (.ireturn, 1) := by decide +kernel
theorem dX1_perform_88 : decode cX1_perform 88 = .ok (.aload_n 0, 1) := by decide +kernel
theorem dX1_perform_89 : decode cX1_perform 89 = .ok (.iload_n 2, 1) := by decide +kernel
theorem dX1_perform_90 : decode cX1_perform 90 = .ok (.aload_n 0, 1) := by decide +kernel
theorem dX1_perform_91 : decode cX1_perform 91 = .ok (.iload_n 2, 1) := by decide +kernel
theorem dX1_perform_92 : decode cX1_perform 92 = .ok (.invokevirtual 58, 3) := by decide +kernel
theorem dX1_perform_95 : decode cX1_perform 95 = .ok (.aload_n 0, 1) := by decide +kernel
theorem dX1_perform_96 : decode cX1_perform 96 = .ok (.iload_n 3, 1) := by decide +kernel
theorem dX1_perform_97 : decode cX1_perform 97 = .ok (.invokevirtual 58, 3) := by decide +kernel
theorem dX1_perform_100 : decode cX1_perform 100 = .ok (.isub, 1) := by decide +kernel
theorem dX1_perform_101 : decode cX1_perform 101 = .ok (.invokevirtual 54, 3) := by decide +kernel
theorem dX1_perform_104 : decode cX1_perform 104 = .ok (.ireturn, 1) := by decide +kernel
theorem dX1_perform_105 : decode cX1_perform 105 = .ok (.aload_n 0, 1) := by decide +kernel
theorem dX1_perform_106 : decode cX1_perform 106 = .ok (.iload_n 2, 1) := by decide +kernel
theorem dX1_perform_107 : decode cX1_perform 107 = .ok (.aload_n 0, 1) := by decide +kernel
theorem dX1_perform_108 : decode cX1_perform 108 = .ok (.iload_n 2, 1) := by decide +kernel
theorem dX1_perform_109 : decode cX1_perform 109 = .ok (.invokevirtual 58, 3) := by decide +kernel
theorem dX1_perform_112 : decode cX1_perform 112 = .ok (.aload_n 0, 1) := by decide +kernel
theorem dX1_perform_113 : decode cX1_perform 113 = .ok (.iload_n 3, 1) := by decide +kernel
theorem dX1_perform_114 : decode cX1_perform 114 = .ok (.invokevirtual 58, 3) := by decide +kernel
theorem dX1_perform_117 : decode cX1_perform 117 = .ok (.imul, 1) := by decide +kernel
theorem dX1_perform_118 : decode cX1_perform 118 = .ok (.invokevirtual 54, 3) := by decide +kernel
theorem dX1_perform_121 : decode cX1_perform 121 = .ok (.ireturn, 1) := by decide +kernel
theorem dX1_perform_122 : decode cX1_perform 122 = .ok (.aload_n 0, 1) := by decide +kernel
theorem dX1_perform_123 : decode cX1_perform 123 = .ok (.iload_n 3, 1) := by decide +kernel
theorem dX1_perform_124 : decode cX1_perform 124 = .ok (.invokevirtual 58, 3) := by decide +kernel
theorem dX1_perform_127 : decode cX1_perform 127 = .ok (.ifCond .eq 26, 3) := by decide +kernel
theorem dX1_perform_130 : decode cX1_perform 130 = .ok (.aload_n 0, 1) := by decide +kernel
theorem dX1_perform_131 : decode cX1_perform 131 = .ok (.iload_n 2, 1) := by decide +kernel
theorem dX1_perform_132 : decode cX1_perform 132 = .ok (.aload_n 0, 1) := by decide +kernel
theorem dX1_perform_133 : decode cX1_perform 133 = .ok (.iload_n 2, 1) := by decide +kernel
theorem dX1_perform_134 : decode cX1_perform 134 = .ok (.invokevirtual 58, 3) := by decide +kernel
theorem dX1_perform_137 : decode cX1_perform 137 = .ok (.aload_n 0, 1) := by decide +kernel
theorem dX1_perform_138 : decode cX1_perform 138 = .ok (.iload_n 3, 1) := by decide +kernel
theorem dX1_perform_139 : decode cX1_perform 139 = .ok (.invokevirtual 58, 3) := by decide +kernel
theorem dX1_perform_142 : decode cX1_perform 142 = .ok (.idiv, 1) := by decide +kernel
theorem dX1_perform_143 : decode cX1_perform 143 = .ok (.invokevirtual 54, 3) := by decide +kernel
theorem dX1_perform_146 : decode cX1_perform 146 = .ok (.ifCond .eq 7, 3) := by decide +kernel
theorem dX1_perform_149 : decode cX1_perform 149 = .ok (.iconst 1, 1) := by decide +kernel
theorem dX1_perform_150 : decode cX1_perform 150 = .ok (.goto 4, 3) := by decide +kernel
theorem dX1_perform_153 : decode cX1_perform 153 = .ok (.iconst 0, 1) := by decide +kernel
theorem dX1_perform_154 : decode cX1_perform 154 = .ok (.ireturn, 1) := by decide +kernel
theorem dX1_perform_155 : decode cX1_perform 155 = .ok (.aload_n 0, 1) := by decide +kernel
theorem dX1_perform_156 : decode cX1_perform 156 = .ok (.iload_n 3, 1) := by decide +kernel
theorem dX1_perform_157 : decode cX1_perform 157 = .ok (.invokevirtual 58, 3) := by decide +kernel
theorem dX1_perform_160 : decode cX1_perform 160 = .ok (.invokestatic 62, 3) := by decide +kernel
theorem dX1_perform_163 : decode cX1_perform 163 = .ok (.ifCond .eq 28, 3) := by decide +kernel
theorem dX1_perform_166 : decode cX1_perform 166 = .ok (.aload_n 0, 1) := by decide +kernel
theorem dX1_perform_167 : decode cX1_perform 167 = .ok (.iload_n 2, 1) := by decide +kernel
theorem dX1_perform_168 : decode cX1_perform 168 = .ok (.aload_n 0, 1) := by decide +kernel
theorem dX1_perform_169 : decode cX1_perform 169 = .ok (.getfield 12, 3) := by decide +kernel
theorem dX1_perform_172 : decode cX1_perform 172 = .ok (.getfield 65, 3) := by decide +kernel
theorem dX1_perform_175 : decode cX1_perform 175 = .ok (.aload_n 0, 1) := by decide +kernel
theorem dX1_perform_176 : decode cX1_perform 176 = .ok (.iload_n 3, 1) := by decide +kernel
theorem dX1_perform_177 : decode cX1_perform 177 = .ok (.invokevirtual 58, 3) := by decide +kernel
theorem dX1_perform_180 : decode cX1_perform 180 = .ok (.iaload, 1) := by decide +kernel
theorem dX1_perform_181 : decode cX1_perform 181 = .ok (.invokevirtual 54, 3) := by decide +kernel
theorem dX1_perform_184 : decode cX1_perform 184 = .ok (.ifCond .eq 7, 3) := by decide +kernel
theorem dX1_perform_187 : decode cX1_perform 187 = .ok (.iconst 1, 1) := by decide +kernel
theorem dX1_perform_188 : decode cX1_perform 188 = .ok (.goto 4, 3) := by decide +kernel
theorem dX1_perform_191 : decode cX1_perform 191 = .ok (.iconst 0, 1) := by decide +kernel
theorem dX1_perform_192 : decode cX1_perform 192 = .ok (.ireturn, 1) := by decide +kernel
theorem dX1_perform_193 : decode cX1_perform 193 = .ok (.aload_n 0, 1) := by decide +kernel
theorem dX1_perform_194 : decode cX1_perform 194 = .ok (.aload_n 0, 1) := by decide +kernel
theorem dX1_perform_195 : decode cX1_perform 195 = .ok (.iload_n 2, 1) := by decide +kernel
theorem dX1_perform_196 : decode cX1_perform 196 = .ok (.invokevirtual 58, 3) := by decide +kernel
theorem dX1_perform_199 : decode cX1_perform 199 = .ok (.aload_n 0, 1) := by decide +kernel
theorem dX1_perform_200 : decode cX1_perform 200 = .ok (.iload_n 3, 1) := by decide +kernel
theorem dX1_perform_201 : decode cX1_perform 201 = .ok (.invokevirtual 58, 3) := by decide +kernel
theorem dX1_perform_204 : decode cX1_perform 204 = .ok (.invokevirtual 68, 3) := by decide +kernel
theorem dX1_perform_207 : decode cX1_perform 207 = .ok (.ireturn, 1) := by decide +kernel
theorem dX1_perform_208 : decode cX1_perform 208 = .ok (.aload_n 0, 1) := by decide +kernel
theorem dX1_perform_209 : decode cX1_perform 209 = .ok (.iload_n 2, 1) := by decide +kernel
theorem dX1_perform_210 : decode cX1_perform 210 = .ok (.invokevirtual 71, 3) := by decide +kernel
theorem dX1_perform_213 : decode cX1_perform 213 = .ok (.ireturn, 1) := by decide +kernel
theorem dX1_perform_214 : decode cX1_perform 214 = .ok (.aload_n 0, 1) := by decide +kernel
theorem dX1_perform_215 : decode cX1_perform 215 = .ok (.iload_n 2, 1) := by decide +kernel
theorem dX1_perform_216 : decode cX1_perform 216 = .ok (.invokevirtual 58, 3) := by decide +kernel
theorem dX1_perform_219 : decode cX1_perform 219 = .ok (.ifCond .ne 11, 3) := by decide +kernel
theorem dX1_perform_222 : decode cX1_perform 222 = .ok (.aload_n 0, 1) := by decide +kernel
theorem dX1_perform_223 : decode cX1_perform 223 = .ok (.iload_n 3, 1) := by decide +kernel
theorem dX1_perform_224 : decode cX1_perform 224 = .ok (.invokevirtual 71, 3) := by decide +kernel
theorem dX1_perform_227 : decode cX1_perform 227 = .ok (.goto 7, 3) := by decide +kernel
theorem dX1_perform_230 : decode cX1_perform 230 = .ok (.aload_n 0, 1) := by decide +kernel
theorem dX1_perform_231 : decode cX1_perform 231 = .ok (.invokevirtual 74, 3) := by decide +kernel
theorem dX1_perform_234 : decode cX1_perform 234 = .ok (.ireturn, 1) := by decide +kernel
theorem dX1_perform_235 : decode cX1_perform 235 = .ok (.aload_n 0, 1) := by decide +kernel
theorem dX1_perform_236 : decode cX1_perform 236 = .ok (.iload_n 2, 1) := by decide +kernel
theorem dX1_perform_237 : decode cX1_perform 237 = .ok (.iload_n 3, 1) := by decide +kernel
theorem dX1_perform_238 : decode cX1_perform 238 = .ok (.invokevirtual 78, 3) := by decide +kernel
theorem dX1_perform_241 : decode cX1_perform 241 = .ok (.ireturn, 1) := by decide +kernel
theorem dX1_perform_242 : decode cX1_perform 242 = .ok (.aload_n 0, 1) := by decide +kernel
theorem dX1_perform_243 : decode cX1_perform 243 = .ok (.aload_n 0, 1) := by decide +kernel
theorem dX1_perform_244 : decode cX1_perform 244 = .ok (.iload_n 2, 1) := by decide +kernel
theorem dX1_perform_245 : decode cX1_perform 245 = .ok (.invokevirtual 58, 3) := by decide +kernel
theorem dX1_perform_248 : decode cX1_perform 248 = .ok (.invokevirtual 81, 3) := by decide +kernel
theorem dX1_perform_251 : decode cX1_perform 251 = .ok (.ireturn, 1) := by decide +kernel
theorem dX1_perform_252 : decode cX1_perform 252 = .ok (.aload_n 0, 1) := by decide +kernel
