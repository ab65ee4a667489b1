theorem dX0_init_0 : decode cX0_init 0 = .ok (.aload_n 0, 1) := by decide +kernel
theorem dX0_init_1 : decode cX0_init 1 = .ok (.invokespecial 3, 3) := by decide +kernel
theorem dX0_init_4 : decode cX0_init 4 = .ok (.aload_n 0, 1) := by decide +kernel
theorem dX0_init_5 : decode cX0_init 5 = .ok (.bipush 8, 2) := by decide +kernel
theorem dX0_init_7 : decode cX0_init 7 = .ok (.anewarray 9, 3) := by decide +kernel
theorem dX0_init_10 : decode cX0_init 10 = .ok (.putfield 11, 3) := by decide +kernel
theorem dX0_init_13 : decode cX0_init 13 = .ok (.aload_n 0, 1) := by decide +kernel
theorem dX0_init_14 : decode cX0_init 14 = .ok (.iconst 1, 1) := by decide +kernel
theorem dX0_init_15 : decode cX0_init 15 = .ok (.putfield 17, 3) := by decide +kernel
theorem dX0_init_18 : decode cX0_init 18 = .ok (.aload_n 0, 1) := by decide +kernel
theorem dX0_init_19 : decode cX0_init 19 = .ok (.iload_n 1, 1) := by decide +kernel
theorem dX0_init_20 : decode cX0_init 20 = .ok (.putfield 21, 3) := by decide +kernel
theorem dX0_init_23 : decode cX0_init 23 = .ok (.aload_n 0, 1) := by decide +kernel
theorem dX0_init_24 : decode cX0_init 24 = .ok (.iload_n 1, 1) := by decide +kernel
theorem dX0_init_25 : decode cX0_init 25 = .ok (.putfield 24, 3) := by decide +kernel
theorem dX0_init_28 : decode cX0_init 28 = .ok (.iconst 0, 1) := by decide +kernel
theorem dX0_init_29 : decode cX0_init 29 = .ok (.istore_n 2, 1) := by decide +kernel
theorem dX0_init_30 : decode cX0_init 30 = .ok (.iload_n 2, 1) := by decide +kernel
theorem dX0_init_31 : decode cX0_init 31 = .ok (.bipush 8, 2) := by decide +kernel
theorem dX0_init_33 : decode cX0_init 33 = .ok (.if_icmp .ge 22, 3) := by decide +kernel
theorem dX0_init_36 : decode cX0_init 36 = .ok (.aload_n 0, 1) := by decide +kernel
theorem dX0_init_37 : decode cX0_init 37 = .ok (.getfield 11, 3) := by decide +kernel
theorem dX0_init_40 : decode cX0_init 40 = .ok (.iload_n 2, 1) := by decide +kernel
theorem dX0_init_41 : decode cX0_init 41 = .ok (.new 9, 3) := by decide +kernel
theorem dX0_init_44 : decode cX0_init 44 = .ok (.dup, 1) := by decide +kernel
theorem dX0_init_45 : decode cX0_init 45 = .ok (.invokespecial 27, 3) := by decide +kernel
theorem dX0_init_48 : decode cX0_init 48 = .ok (.aastore, 1) := by decide +kernel
theorem dX0_init_49 : decode cX0_init 49 = .ok (.iinc 2 1, 3) := by decide +kernel
theorem dX0_init_52 : decode cX0_init 52 = .ok (.goto (-22), 3) := by decide +kernel
theorem dX0_init_55 : decode cX0_init 55 = .ok (.return_, 1) := by decide +kernel
theorem dX0_restart_0 : decode cX0_restart 0 = .ok (.aload_n 0, 1) := by decide +kernel
theorem dX0_restart_1 : decode cX0_restart 1 = .ok (.getfield 11, 3) := by decide +kernel
theorem dX0_restart_4 : decode cX0_restart 4 = .ok (.iconst 0, 1) := by decide +kernel
theorem dX0_restart_5 : decode cX0_restart 5 = .ok (.aaload, 1) := by decide +kernel
theorem dX0_restart_6 : decode cX0_restart 6 = .ok (.aload_n 1, 1) := by decide +kernel
theorem dX0_restart_7 : decode cX0_restart 7 = .ok (.invokevirtual 28, 3) := by decide +kernel
theorem dX0_restart_10 : decode cX0_restart 10 = .ok (.aload_n 0, 1) := by decide +kernel
theorem dX0_restart_11 : decode cX0_restart 11 = .ok (.iconst 1, 1) := by decide +kernel
theorem dX0_restart_12 : decode cX0_restart 12 = .ok (.putfield 17, 3) := by decide +kernel
theorem dX0_restart_15 : decode cX0_restart 15 = .ok (.aload_n 0, 1) := by decide +kernel
theorem dX0_restart_16 : decode cX0_restart 16 = .ok (.aload_n 0, 1) := by decide +kernel
theorem dX0_restart_17 : decode cX0_restart 17 = .ok (.getfield 21, 3) := by decide +kernel
theorem dX0_restart_20 : decode cX0_restart 20 = .ok (.putfield 24, 3) := by decide +kernel
theorem dX0_restart_23 : decode cX0_restart 23 = .ok (.aload_n 0, 1) := by decide +kernel
theorem dX0_restart_24 : decode cX0_restart 24 = .ok (.iconst 0, 1) := by decide +kernel
theorem dX0_restart_25 : decode cX0_restart 25 = .ok (.putfield 32, 3) := by decide +kernel
theorem dX0_restart_28 : decode cX0_restart 28 = .ok (.return_, 1) := by decide +kernel
theorem dX0_latestUpTo_0 : decode cX0_latestUpTo 0 = .ok (.aload_n 0, 1) := by decide +kernel
theorem dX0_latestUpTo_1 : decode cX0_latestUpTo 1 = .ok (.getfield 17, 3) := by decide +kernel
theorem dX0_latestUpTo_4 : decode cX0_latestUpTo 4 = .ok (.iconst 1, 1) := by decide +kernel
theorem dX0_latestUpTo_5 : decode cX0_latestUpTo 5 = .ok (.isub, 1) := by decide +kernel
theorem dX0_latestUpTo_6 : decode cX0_latestUpTo 6 = .ok (.istore_n 2, 1) := by decide +kernel
theorem dX0_latestUpTo_7 : decode cX0_latestUpTo 7 = .ok (.iload_n 2, 1) := by decide +kernel
theorem dX0_latestUpTo_8 : decode cX0_latestUpTo 8 = .ok (.ifCond .lt 22, 3) := by decide +kernel
theorem dX0_latestUpTo_11 : decode cX0_latestUpTo 11 = .ok (.aload_n 0, 1) := by decide +kernel
theorem dX0_latestUpTo_12 : decode cX0_latestUpTo 12 = .ok (.getfield 11, 3) := by decide +kernel
theorem dX0_latestUpTo_15 : decode cX0_latestUpTo 15 = .ok (.iload_n 2, 1) := by decide +kernel
theorem dX0_latestUpTo_16 : decode cX0_latestUpTo 16 = .ok (.aaload, 1) := by decide +kernel
theorem dX0_latestUpTo_17 : decode cX0_latestUpTo 17 = .ok (.getfield 35, 3) := by decide +kernel
theorem dX0_latestUpTo_20 : decode cX0_latestUpTo 20 = .ok (.iload_n 1, 1) := by decide +kernel
theorem dX0_latestUpTo_21 : decode cX0_latestUpTo 21 = .ok (.if_icmp .le 9, 3) := by decide +kernel
theorem dX0_latestUpTo_24 : decode cX0_latestUpTo 24 = .ok (.iinc 2 (-1), 3) := by decide +kernel
theorem dX0_latestUpTo_27 : decode cX0_latestUpTo 27 = .ok (.goto (-20), 3) := by decide +kernel
theorem dX0_latestUpTo_30 : decode cX0_latestUpTo 30 = .ok (.iload_n 2, 1) := by decide +kernel
theorem dX0_latestUpTo_31 : decode cX0_latestUpTo 31 = .ok (.ireturn, 1) := by decide +kernel
theorem dX1_init_0 : decode cX1_init 0 = .ok (.aload_n 0, 1) := by decide +kernel
theorem dX1_init_1 : decode cX1_init 1 = .ok (.invokespecial 3, 3) := by decide +kernel
theorem dX1_init_4 : decode cX1_init 4 = .ok (.aload_n 0, 1) := by decide +kernel
theorem dX1_init_5 : decode cX1_init 5 = .ok (.new 9, 3) := by decide +kernel
theorem dX1_init_8 : decode cX1_init 8 = .ok (.dup, 1) := by decide +kernel
theorem dX1_init_9 : decode cX1_init 9 = .ok (.invokespecial 11, 3) := by decide +kernel
theorem dX1_init_12 : decode cX1_init 12 = .ok (.putfield 12, 3) := by decide +kernel
theorem dX1_init_15 : decode cX1_init 15 = .ok (.aload_n 0, 1) := by decide +kernel
theorem dX1_init_16 : decode cX1_init 16 = .ok (.sipush 200, 3) := by decide +kernel
theorem dX1_init_19 : decode cX1_init 19 = .ok (.newarray .int, 2) := by decide +kernel
theorem dX1_init_21 : decode cX1_init 21 = .ok (.putfield 18, 3) := by decide +kernel
theorem dX1_init_24 : decode cX1_init 24 = .ok (.aload_n 0, 1) := by decide +kernel
theorem dX1_init_25 : decode cX1_init 25 = .ok (.iconst (-1), 1) := by decide +kernel
theorem dX1_init_26 : decode cX1_init 26 = .ok (.putfield 22, 3) := by decide +kernel
theorem dX1_init_29 : decode cX1_init 29 = .ok (.return_, 1) := by decide +kernel
theorem dX1_doLine_0 : decode cX1_doLine 0 = .ok (.aload_n 0, 1) := by decide +kernel
theorem dX1_doLine_1 : decode cX1_doLine 1 = .ok (.iconst (-1), 1) := by decide +kernel
theorem dX1_doLine_2 : decode cX1_doLine 2 = .ok (.putfield 22, 3) := by decide +kernel
theorem dX1_doLine_5 : decode cX1_doLine 5 = .ok (.aload_n 0, 1) := by decide +kernel
theorem dX1_doLine_6 : decode cX1_doLine 6 = .ok (.getfield 12, 3) := by decide +kernel
theorem dX1_doLine_9 : decode cX1_doLine 9 = .ok (.getfield 26, 3) := by decide +kernel
theorem dX1_doLine_12 : decode cX1_doLine 12 = .ok (.aload_n 0, 1) := by decide +kernel
theorem dX1_doLine_13 : decode cX1_doLine 13 = .ok (.getfield 12, 3) := by decide +kernel
theorem dX1_doLine_16 : decode cX1_doLine 16 = .ok (.getfield 29, 3) := by decide +kernel
theorem dX1_doLine_19 : decode cX1_doLine 19 = .ok (.iconst 1, 1) := by decide +kernel
theorem dX1_doLine_20 : decode cX1_doLine 20 = .ok (.isub, 1) := by decide +kernel
theorem dX1_doLine_21 : decode cX1_doLine 21 = .ok (.iaload, 1) := by decide +kernel
theorem dX1_doLine_22 : decode cX1_doLine 22 = .ok (.istore_n 2, 1) := by decide +kernel
theorem dX1_doLine_23 : decode cX1_doLine 23 = .ok (.aload_n 1, 1) := by decide +kernel
theorem dX1_doLine_24 : decode cX1_doLine 24 = .ok (.iload_n 2, 1) := by decide +kernel
theorem dX1_doLine_25 : decode cX1_doLine 25 = .ok (.invokevirtual 32, 3) := by decide +kernel
theorem dX1_doLine_28 : decode cX1_doLine 28 = .ok (.ifCond .ne 5, 3) := by decide +kernel
theorem dX1_doLine_31 : decode cX1_doLine 31 = .ok (.iconst 0, 1) := by decide +kernel
theorem dX1_doLine_32 : decode cX1_doLine 32 = .ok (.ireturn, 1) := by decide +kernel
theorem dX1_doLine_33 : decode cX1_doLine 33 = .ok (.aload_n 0, 1) := by decide +kernel
theorem dX1_doLine_34 : decode cX1_doLine 34 = .ok (.aload_n 1, 1) := by decide +kernel
theorem dX1_doLine_35 : decode cX1_doLine 35 = .ok (.getfield 38, 3) := by decide +kernel
theorem dX1_doLine_38 : decode cX1_doLine 38 = .ok (.iload_n 2, 1) := by decide +kernel
theorem dX1_doLine_39 : decode cX1_doLine 39 = .ok (.iaload, 1) := by decide +kernel
theorem dX1_doLine_40 : decode cX1_doLine 40 = .ok (.aload_n 1, 1) := by decide +kernel
theorem dX1_doLine_41 : decode cX1_doLine 41 = .ok (.getfield 41, 3) := by decide +kernel
theorem dX1_doLine_44 : decode cX1_doLine 44 = .ok (.iload_n 2, 1) := by decide +kernel
theorem dX1_doLine_45 : decode cX1_doLine 45 = .ok (.iaload, 1) := by decide +kernel
theorem dX1_doLine_46 : decode cX1_doLine 46 = .ok (.aload_n 1, 1) := by decide +kernel
theorem dX1_doLine_47 : decode cX1_doLine 47 = .ok (.getfield 44, 3) := by decide +kernel
theorem dX1_doLine_50 : decode cX1_doLine 50 = .ok (.iload_n 2, 1) := by decide +kernel
theorem dX1_doLine_51 : decode cX1_doLine 51 = .ok (.iaload, 1) := by decide +kernel
theorem dX1_doLine_52 : decode cX1_doLine 52 = .ok (.invokevirtual 47, 3) := by decide +kernel
theorem dX1_doLine_55 : decode cX1_doLine 55 = .ok (.istore_n 3, 1) := by decide +kernel
theorem dX1_doLine_56 : decode cX1_doLine 56 = .ok (.iload_n 3, 1) := by decide +kernel
theorem dX1_doLine_57 : decode cX1_doLine 57 = .ok (.ifCond .eq 16, 3) := by decide +kernel
theorem dX1_doLine_60 : decode cX1_doLine 60 = .ok (.aload_n 0, 1) := by decide +kernel
theorem dX1_doLine_61 : decode cX1_doLine 61 = .ok (.getfield 12, 3) := by decide +kernel
theorem dX1_doLine_64 : decode cX1_doLine 64 = .ok (.dup, 1) := by decide +kernel
theorem dX1_doLine_65 : decode cX1_doLine 65 = .ok (.getfield 51, 3) := by decide +kernel
theorem dX1_doLine_68 : decode cX1_doLine 68 = .ok (.iconst 1, 1) := by decide +kernel
theorem dX1_doLine_69 : decode cX1_doLine 69 = .ok (.iadd, 1) := by decide +kernel
theorem dX1_doLine_70 : decode cX1_doLine 70 = .ok (.putfield 51, 3) := by decide +kernel
theorem dX1_doLine_73 : decode cX1_doLine 73 = .ok (.iload_n 3, 1) := by decide +kernel
theorem dX1_doLine_74 : decode cX1_doLine 74 = .ok (.ireturn, 1) := by decide +kernel
theorem dX2_init_0 : decode cX2_init 0 = .ok (.aload_n 0, 1) := by decide +kernel
theorem dX2_init_1 : decode cX2_init 1 = .ok (.invokespecial 3, 3) := by decide +kernel
theorem dX2_init_4 : decode cX2_init 4 = .ok (.aload_n 0, 1) := by decide +kernel
theorem dX2_init_5 : decode cX2_init 5 = .ok (.bipush 80, 2) := by decide +kernel
theorem dX2_init_7 : decode cX2_init 7 = .ok (.newarray .int, 2) := by decide +kernel
theorem dX2_init_9 : decode cX2_init 9 = .ok (.putfield 9, 3) := by decide +kernel
theorem dX2_init_12 : decode cX2_init 12 = .ok (.aload_n 0, 1) := by decide +kernel
theorem dX2_init_13 : decode cX2_init 13 = .ok (.bipush 80, 2) := by decide +kernel
theorem dX2_init_15 : decode cX2_init 15 = .ok (.newarray .int, 2) := by decide +kernel
theorem dX2_init_17 : decode cX2_init 17 = .ok (.putfield 15, 3) := by decide +kernel
theorem dX2_init_20 : decode cX2_init 20 = .ok (.aload_n 0, 1) := by decide +kernel
theorem dX2_init_21 : decode cX2_init 21 = .ok (.bipush 80, 2) := by decide +kernel
theorem dX2_init_23 : decode cX2_init 23 = .ok (.newarray .int, 2) := by decide +kernel
theorem dX2_init_25 : decode cX2_init 25 = .ok (.putfield 18, 3) := by decide +kernel
theorem dX2_init_28 : decode cX2_init 28 = .ok (.aload_n 0, 1) := by decide +kernel
theorem dX2_init_29 : decode cX2_init 29 = .ok (.bipush 80, 2) := by decide +kernel
theorem dX2_init_31 : decode cX2_init 31 = .ok (.newarray .boolean, 2) := by decide +kernel
theorem dX2_init_33 : decode cX2_init 33 = .ok (.putfield 21, 3) := by decide +kernel
theorem dX2_init_36 : decode cX2_init 36 = .ok (.return_, 1) := by decide +kernel
theorem dX2_allows_0 : decode cX2_allows 0 = .ok (.iload_n 0, 1) := by decide +kernel
theorem dX2_allows_1 : decode cX2_allows 1 = .ok (.ifCond .lt 9, 3) := by decide +kernel
theorem dX2_allows_4 : decode cX2_allows 4 = .ok (.iload_n 0, 1) := by decide +kernel
theorem dX2_allows_5 : decode cX2_allows 5 = .ok (.bipush 12, 2) := by decide +kernel
theorem dX2_allows_7 : decode cX2_allows 7 = .ok (.if_icmp .le 5, 3) := by decide +kernel
theorem dX2_allows_10 : decode cX2_allows 10 = .ok (.iconst 0, 1) := by decide +kernel
theorem dX2_allows_11 : decode cX2_allows 11 = .ok (.ireturn, 1) := by decide +kernel
theorem dX2_allows_12 : decode cX2_allows 12 = .ok (.iload_n 0, 1) := by decide +kernel
theorem dX2_allows_13 : decode cX2_allows 13 = .ok (.invokestatic 25, 3) := by decide +kernel
theorem dX2_allows_16 : decode cX2_allows 16 = .ok (.ifCond .eq 12, 3) := by decide +kernel
theorem dX2_allows_19 : decode cX2_allows 19 = .ok (.iload_n 1, 1) := by decide +kernel
theorem dX2_allows_20 : decode cX2_allows 20 = .ok (.invokestatic 29, 3) := by decide +kernel
theorem dX2_allows_23 : decode cX2_allows 23 = .ok (.ifCond .ne 5, 3) := by decide +kernel
theorem dX2_allows_26 : decode cX2_allows 26 = .ok (.iconst 0, 1) := by decide +kernel
theorem dX2_allows_27 : decode cX2_allows 27 = .ok (.ireturn, 1) := by decide +kernel
theorem dX2_allows_28 : decode cX2_allows 28 = .ok (.iload_n 0, 1) := by decide +kernel
theorem dX2_allows_29 : decode cX2_allows 29 = .ok (.iconst 1, 1) := by decide +kernel
theorem dX2_allows_30 : decode cX2_allows 30 = .ok (.if_icmp .lt 18, 3) := by decide +kernel
theorem dX2_allows_33 : decode cX2_allows 33 = .ok (.iload_n 0, 1) := by decide +kernel
theorem dX2_allows_34 : decode cX2_allows 34 = .ok (.bipush 6, 2) := by decide +kernel
theorem dX2_allows_36 : decode cX2_allows 36 = .ok (.if_icmp .gt 12, 3) := by decide +kernel
theorem dX2_allows_39 : decode cX2_allows 39 = .ok (.iload_n 2, 1) := by decide +kernel
theorem dX2_allows_40 : decode cX2_allows 40 = .ok (.invokestatic 29, 3) := by decide +kernel
theorem dX2_allows_43 : decode cX2_allows 43 = .ok (.ifCond .ne 5, 3) := by decide +kernel
theorem dX2_allows_46 : decode cX2_allows 46 = .ok (.iconst 0, 1) := by decide +kernel
theorem dX2_allows_47 : decode cX2_allows 47 = .ok (.ireturn, 1) := by decide +kernel
theorem dX2_allows_48 : decode cX2_allows 48 = .ok (.iload_n 0, 1) := by decide +kernel
theorem dX2_allows_49 : decode cX2_allows 49 = .ok (.bipush 9, 2) := by decide +kernel
theorem dX2_allows_51 : decode cX2_allows 51 = .ok (.if_icmp .ne 13, 3) := by decide +kernel
theorem dX2_allows_54 : decode cX2_allows 54 = .ok (.iload_n 2, 1) := by decide +kernel
theorem dX2_allows_55 : decode cX2_allows 55 = .ok (.ifCond .lt 13, 3) := by decide +kernel
theorem dX2_allows_58 : decode cX2_allows 58 = .ok (.iload_n 2, 1) := by decide +kernel
theorem dX2_allows_59 : decode cX2_allows 59 = .ok (.bipush 8, 2) := by decide +kernel
theorem dX2_allows_61 : decode cX2_allows 61 = .ok (.if_icmp .gt 7, 3) := by decide +kernel
theorem dX2_allows_64 : decode cX2_allows 64 = .ok (.iconst 1, 1) := by decide +kernel
theorem dX2_allows_65 : decode cX2_allows 65 = .ok (.goto 4, 3) := by decide +kernel
theorem dX2_allows_68 : decode cX2_allows 68 = .ok (.iconst 0, 1) := by decide +kernel
theorem dX2_allows_69 : decode cX2_allows 69 = .ok (.ireturn, 1) := by decide +kernel
theorem dX2_takesLocalA_0 : decode cX2_takesLocalA 0 = .ok (.iload_n 0, 1) := by decide +kernel
theorem dX2_takesLocalA_1 : decode cX2_takesLocalA 1 = .ok (.bipush 6, 2) := by decide +kernel
theorem dX2_takesLocalA_3 : decode cX2_takesLocalA 3 = .ok (.if_icmp .le 21, 3) := by decide +kernel
theorem dX2_takesLocalA_6 : decode cX2_takesLocalA 6 = .ok (.iload_n 0, 1) := by decide +kernel
theorem dX2_takesLocalA_7 : decode cX2_takesLocalA 7 = .ok (.bipush 8, 2) := by decide +kernel
theorem dX2_takesLocalA_9 : decode cX2_takesLocalA 9 = .ok (.if_icmp .eq 15, 3) := by decide +kernel
theorem dX2_takesLocalA_12 : decode cX2_takesLocalA 12 = .ok (.iload_n 0, 1) := by decide +kernel
theorem dX2_takesLocalA_13 : decode cX2_takesLocalA 13 = .ok (.bipush 10, 2) := by decide +kernel
theorem dX2_takesLocalA_15 : decode cX2_takesLocalA 15 = .ok (.if_icmp .eq 9, 3) := by decide +kernel
theorem dX2_takesLocalA_18 : decode cX2_takesLocalA 18 = .ok (.iload_n 0, 1) := by decide +kernel
theorem dX2_takesLocalA_19 : decode cX2_takesLocalA 19 = .ok (.bipush 11, 2) := by decide +kernel
theorem dX2_takesLocalA_21 : decode cX2_takesLocalA 21 = .ok (.if_icmp .ne 7, 3) := by decide +kernel
theorem dX2_takesLocalA_24 : decode cX2_takesLocalA 24 = .ok (.iconst 1, 1) := by decide +kernel
theorem dX2_takesLocalA_25 : decode cX2_takesLocalA 25 = .ok (.goto 4, 3) := by decide +kernel
theorem dX2_takesLocalA_28 : decode cX2_takesLocalA 28 = .ok (.iconst 0, 1) := by decide +kernel
theorem dX2_takesLocalA_29 : decode cX2_takesLocalA 29 = .ok (.ireturn, 1) := by decide +kernel
theorem dX2_has_0 : decode cX2_has 0 = .ok (.iload_n 1, 1) := by decide +kernel
theorem dX2_has_1 : decode cX2_has 1 = .ok (.ifCond .lt 15, 3) := by decide +kernel
theorem dX2_has_4 : decode cX2_has 4 = .ok (.iload_n 1, 1) := by decide +kernel
theorem dX2_has_5 : decode cX2_has 5 = .ok (.aload_n 0, 1) := by decide +kernel
theorem dX2_has_6 : decode cX2_has 6 = .ok (.getfield 32, 3) := by decide +kernel
theorem dX2_has_9 : decode cX2_has 9 = .ok (.if_icmp .ge 7, 3) := by decide +kernel
theorem dX2_has_12 : decode cX2_has 12 = .ok (.iconst 1, 1) := by decide +kernel
theorem dX2_has_13 : decode cX2_has 13 = .ok (.goto 4, 3) := by decide +kernel
theorem dX2_has_16 : decode cX2_has 16 = .ok (.iconst 0, 1) := by decide +kernel
theorem dX2_has_17 : decode cX2_has 17 = .ok (.ireturn, 1) := by decide +kernel
theorem dX2_append_0 : decode cX2_append 0 = .ok (.aload_n 0, 1) := by decide +kernel
theorem dX2_append_1 : decode cX2_append 1 = .ok (.getfield 9, 3) := by decide +kernel
theorem dX2_append_4 : decode cX2_append 4 = .ok (.aload_n 0, 1) := by decide +kernel
theorem dX2_append_5 : decode cX2_append 5 = .ok (.getfield 32, 3) := by decide +kernel
theorem dX2_append_8 : decode cX2_append 8 = .ok (.iload_n 1, 1) := by decide +kernel
theorem dX2_append_9 : decode cX2_append 9 = .ok (.iastore, 1) := by decide +kernel
theorem dX2_append_10 : decode cX2_append 10 = .ok (.aload_n 0, 1) := by decide +kernel
theorem dX2_append_11 : decode cX2_append 11 = .ok (.getfield 15, 3) := by decide +kernel
theorem dX2_append_14 : decode cX2_append 14 = .ok (.aload_n 0, 1) := by decide +kernel
theorem dX2_append_15 : decode cX2_append 15 = .ok (.getfield 32, 3) := by decide +kernel
theorem dX2_append_18 : decode cX2_append 18 = .ok (.iload_n 2, 1) := by decide +kernel
theorem dX2_append_19 : decode cX2_append 19 = .ok (.iastore, 1) := by decide +kernel
theorem dX2_append_20 : decode cX2_append 20 = .ok (.aload_n 0, 1) := by decide +kernel
theorem dX2_append_21 : decode cX2_append 21 = .ok (.getfield 18, 3) := by decide +kernel
theorem dX2_append_24 : decode cX2_append 24 = .ok (.aload_n 0, 1) := by decide +kernel
theorem dX2_append_25 : decode cX2_append 25 = .ok (.getfield 32, 3) := by decide +kernel
theorem dX2_append_28 : decode cX2_append 28 = .ok (.iload_n 3, 1) := by decide +kernel
theorem dX2_append_29 : decode cX2_append 29 = .ok (.iastore, 1) := by decide +kernel
theorem dX2_append_30 : decode cX2_append 30 = .ok (.aload_n 0, 1) := by decide +kernel
theorem dX2_append_31 : decode cX2_append 31 = .ok (.dup, 1) := by decide +kernel
theorem dX2_append_32 : decode cX2_append 32 = .ok (.getfield 32, 3) := by decide +kernel
theorem dX2_append_35 : decode cX2_append 35 = .ok (.iconst 1, 1) := by decide +kernel
theorem dX2_append_36 : decode cX2_append 36 = .ok (.iadd, 1) := by decide +kernel
theorem dX2_append_37 : decode cX2_append 37 = .ok (.putfield 32, 3) := by decide +kernel
theorem dX2_append_40 : decode cX2_append 40 = .ok (.return_, 1) := by decide +kernel
theorem dX2_empty_0 : decode cX2_empty 0 = .ok (.iconst 0, 1) := by decide +kernel
theorem dX2_empty_1 : decode cX2_empty 1 = .ok (.istore_n 1, 1) := by decide +kernel
theorem dX2_empty_2 : decode cX2_empty 2 = .ok (.iload_n 1, 1) := by decide +kernel
theorem dX2_empty_3 : decode cX2_empty 3 = .ok (.aload_n 0, 1) := by decide +kernel
theorem dX2_empty_4 : decode cX2_empty 4 = .ok (.getfield 32, 3) := by decide +kernel
theorem dX2_empty_7 : decode cX2_empty 7 = .ok (.if_icmp .ge 16, 3) := by decide +kernel
theorem dX2_empty_10 : decode cX2_empty 10 = .ok (.aload_n 0, 1) := by decide +kernel
theorem dX2_empty_11 : decode cX2_empty 11 = .ok (.getfield 21, 3) := by decide +kernel
theorem dX2_empty_14 : decode cX2_empty 14 = .ok (.iload_n 1, 1) := by decide +kernel
theorem dX2_empty_15 : decode cX2_empty 15 = .ok (.iconst 0, 1) := by decide +kernel
theorem dX2_empty_16 : decode cX2_empty 16 = .ok (.bastore, 1) := by decide +kernel
theorem dX2_empty_17 : decode cX2_empty 17 = .ok (.iinc 1 1, 3) := by decide +kernel
theorem dX2_empty_20 : decode cX2_empty 20 = .ok (.goto (-18), 3) := by decide +kernel
theorem dX2_empty_23 : decode cX2_empty 23 = .ok (.aload_n 0, 1) := by decide +kernel
theorem dX2_empty_24 : decode cX2_empty 24 = .ok (.iconst 0, 1) := by decide +kernel
theorem dX2_empty_25 : decode cX2_empty 25 = .ok (.putfield 32, 3) := by decide +kernel
theorem dX2_empty_28 : decode cX2_empty 28 = .ok (.return_, 1) := by decide +kernel
theorem dX3_init_0 : decode cX3_init 0 = .ok (.aload_n 0, 1) := by decide +kernel
theorem dX3_init_1 : decode cX3_init 1 = .ok (.invokespecial 3, 3) := by decide +kernel
theorem dX3_init_4 : decode cX3_init 4 = .ok (.aload_n 0, 1) := by decide +kernel
theorem dX3_init_5 : decode cX3_init 5 = .ok (.bipush 64, 2) := by decide +kernel
theorem dX3_init_7 : decode cX3_init 7 = .ok (.newarray .int, 2) := by decide +kernel
theorem dX3_init_9 : decode cX3_init 9 = .ok (.putfield 9, 3) := by decide +kernel
theorem dX3_init_12 : decode cX3_init 12 = .ok (.aload_n 0, 1) := by decide +kernel
theorem dX3_init_13 : decode cX3_init 13 = .ok (.sipush 128, 3) := by decide +kernel
theorem dX3_init_16 : decode cX3_init 16 = .ok (.newarray .int, 2) := by decide +kernel
theorem dX3_init_18 : decode cX3_init 18 = .ok (.putfield 15, 3) := by decide +kernel
theorem dX3_init_21 : decode cX3_init 21 = .ok (.aload_n 0, 1) := by decide +kernel
theorem dX3_init_22 : decode cX3_init 22 = .ok (.bipush 16, 2) := by decide +kernel
theorem dX3_init_24 : decode cX3_init 24 = .ok (.newarray .int, 2) := by decide +kernel
theorem dX3_init_26 : decode cX3_init 26 = .ok (.putfield 18, 3) := by decide +kernel
theorem dX3_init_29 : decode cX3_init 29 = .ok (.aload_n 0, 1) := by decide +kernel
theorem dX3_init_30 : decode cX3_init 30 = .ok (.iconst 1, 1) := by decide +kernel
theorem dX3_init_31 : decode cX3_init 31 = .ok (.putfield 21, 3) := by decide +kernel
theorem dX3_init_34 : decode cX3_init 34 = .ok (.return_, 1) := by decide +kernel
theorem dX3_hasFrame_0 : decode cX3_hasFrame 0 = .ok (.iload_n 1, 1) := by decide +kernel
theorem dX3_hasFrame_1 : decode cX3_hasFrame 1 = .ok (.ifCond .lt 15, 3) := by decide +kernel
theorem dX3_hasFrame_4 : decode cX3_hasFrame 4 = .ok (.iload_n 1, 1) := by decide +kernel
theorem dX3_hasFrame_5 : decode cX3_hasFrame 5 = .ok (.aload_n 0, 1) := by decide +kernel
theorem dX3_hasFrame_6 : decode cX3_hasFrame 6 = .ok (.getfield 21, 3) := by decide +kernel
theorem dX3_hasFrame_9 : decode cX3_hasFrame 9 = .ok (.if_icmp .ge 7, 3) := by decide +kernel
theorem dX3_hasFrame_12 : decode cX3_hasFrame 12 = .ok (.iconst 1, 1) := by decide +kernel
theorem dX3_hasFrame_13 : decode cX3_hasFrame 13 = .ok (.goto 4, 3) := by decide +kernel
theorem dX3_hasFrame_16 : decode cX3_hasFrame 16 = .ok (.iconst 0, 1) := by decide +kernel
theorem dX3_hasFrame_17 : decode cX3_hasFrame 17 = .ok (.ireturn, 1) := by decide +kernel
theorem dX3_reset_0 : decode cX3_reset 0 = .ok (.iconst 0, 1) := by decide +kernel
theorem dX3_reset_1 : decode cX3_reset 1 = .ok (.istore_n 1, 1) := by decide +kernel
theorem dX3_reset_2 : decode cX3_reset 2 = .ok (.iload_n 1, 1) := by decide +kernel
theorem dX3_reset_3 : decode cX3_reset 3 = .ok (.aload_n 0, 1) := by decide +kernel
theorem dX3_reset_4 : decode cX3_reset 4 = .ok (.getfield 9, 3) := by decide +kernel
theorem dX3_reset_7 : decode cX3_reset 7 = .ok (.arraylength, 1) := by decide +kernel
theorem dX3_reset_8 : decode cX3_reset 8 = .ok (.if_icmp .ge 16, 3) := by decide +kernel
theorem dX3_reset_11 : decode cX3_reset 11 = .ok (.aload_n 0, 1) := by decide +kernel
theorem dX3_reset_12 : decode cX3_reset 12 = .ok (.getfield 9, 3) := by decide +kernel
theorem dX3_reset_15 : decode cX3_reset 15 = .ok (.iload_n 1, 1) := by decide +kernel
theorem dX3_reset_16 : decode cX3_reset 16 = .ok (.iconst 0, 1) := by decide +kernel
theorem dX3_reset_17 : decode cX3_reset 17 = .ok (.iastore, 1) := by decide +kernel
theorem dX3_reset_18 : decode cX3_reset 18 = .ok (.iinc 1 1, 3) := by decide +kernel
theorem dX3_reset_21 : decode cX3_reset 21 = .ok (.goto (-19), 3) := by decide +kernel
theorem dX3_reset_24 : decode cX3_reset 24 = .ok (.iconst 0, 1) := by decide +kernel
theorem dX3_reset_25 : decode cX3_reset 25 = .ok (.istore_n 1, 1) := by decide +kernel
theorem dX3_reset_26 : decode cX3_reset 26 = .ok (.iload_n 1, 1) := by decide +kernel
theorem dX3_reset_27 : decode cX3_reset 27 = .ok (.aload_n 0, 1) := by decide +kernel
theorem dX3_reset_28 : decode cX3_reset 28 = .ok (.getfield 15, 3) := by decide +kernel
theorem dX3_reset_31 : decode cX3_reset 31 = .ok (.arraylength, 1) := by decide +kernel
theorem dX3_reset_32 : decode cX3_reset 32 = .ok (.if_icmp .ge 16, 3) := by decide +kernel
theorem dX3_reset_35 : decode cX3_reset 35 = .ok (.aload_n 0, 1) := by decide +kernel
theorem dX3_reset_36 : decode cX3_reset 36 = .ok (.getfield 15, 3) := by decide +kernel
theorem dX3_reset_39 : decode cX3_reset 39 = .ok (.iload_n 1, 1) := by decide +kernel
theorem dX3_reset_40 : decode cX3_reset 40 = .ok (.iconst 0, 1) := by decide +kernel
theorem dX3_reset_41 : decode cX3_reset 41 = .ok (.iastore, 1) := by decide +kernel
theorem dX3_reset_42 : decode cX3_reset 42 = .ok (.iinc 1 1, 3) := by decide +kernel
theorem dX3_reset_45 : decode cX3_reset 45 = .ok (.goto (-19), 3) := by decide +kernel
theorem dX3_reset_48 : decode cX3_reset 48 = .ok (.iconst 0, 1) := by decide +kernel
theorem dX3_reset_49 : decode cX3_reset 49 = .ok (.istore_n 1, 1) := by decide +kernel
theorem dX3_reset_50 : decode cX3_reset 50 = .ok (.iload_n 1, 1) := by decide +kernel
theorem dX3_reset_51 : decode cX3_reset 51 = .ok (.aload_n 0, 1) := by decide +kernel
theorem dX3_reset_52 : decode cX3_reset 52 = .ok (.getfield 18, 3) := by decide +kernel
theorem dX3_reset_55 : decode cX3_reset 55 = .ok (.arraylength, 1) := by decide +kernel
theorem dX3_reset_56 : decode cX3_reset 56 = .ok (.if_icmp .ge 16, 3) := by decide +kernel
theorem dX3_reset_59 : decode cX3_reset 59 = .ok (.aload_n 0, 1) := by decide +kernel
theorem dX3_reset_60 : decode cX3_reset 60 = .ok (.getfield 18, 3) := by decide +kernel
theorem dX3_reset_63 : decode cX3_reset 63 = .ok (.iload_n 1, 1) := by decide +kernel
theorem dX3_reset_64 : decode cX3_reset 64 = .ok (.iconst 0, 1) := by decide +kernel
theorem dX3_reset_65 : decode cX3_reset 65 = .ok (.iastore, 1) := by decide +kernel
theorem dX3_reset_66 : decode cX3_reset 66 = .ok (.iinc 1 1, 3) := by decide +kernel
theorem dX3_reset_69 : decode cX3_reset 69 = .ok (.goto (-19), 3) := by decide +kernel
theorem dX3_reset_72 : decode cX3_reset 72 = .ok (.aload_n 0, 1) := by decide +kernel
theorem dX3_reset_73 : decode cX3_reset 73 = .ok (.iconst 1, 1) := by decide +kernel
theorem dX3_reset_74 : decode cX3_reset 74 = .ok (.putfield 21, 3) := by decide +kernel
theorem dX3_reset_77 : decode cX3_reset 77 = .ok (.aload_n 0, 1) := by decide +kernel
theorem dX3_reset_78 : decode cX3_reset 78 = .ok (.iconst 0, 1) := by decide +kernel
theorem dX3_reset_79 : decode cX3_reset 79 = .ok (.putfield 25, 3) := by decide +kernel
theorem dX3_reset_82 : decode cX3_reset 82 = .ok (.aload_n 0, 1) := by decide +kernel
theorem dX3_reset_83 : decode cX3_reset 83 = .ok (.iconst 0, 1) := by decide +kernel
theorem dX3_reset_84 : decode cX3_reset 84 = .ok (.putfield 28, 3) := by decide +kernel
theorem dX3_reset_87 : decode cX3_reset 87 = .ok (.aload_n 0, 1) := by decide +kernel
