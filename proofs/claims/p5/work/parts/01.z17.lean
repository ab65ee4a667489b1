theorem dX4_advance_128 : decode cX4_advance 128 = .ok (.iaload, 1) := by decide +kernel
theorem dX4_advance_129 : decode cX4_advance 129 = .ok (.invokevirtual 166, 3) := by decide +kernel
theorem dX4_advance_132 : decode cX4_advance 132 = .ok (.ifCond .eq 7, 3) := by decide +kernel
theorem dX4_advance_135 : decode cX4_advance 135 = .ok (.iconst 1, 1) := by decide +kernel
theorem dX4_advance_136 : decode cX4_advance 136 = .ok (.goto 4, 3) := by decide +kernel
theorem dX4_advance_139 : decode cX4_advance 139 = .ok (.iconst 0, 1) := by decide +kernel
theorem dX4_advance_140 : decode cX4_advance 140 = .ok (.ireturn, 1) := by decide +kernel
theorem dX4_advanceTillFramesAre_0 : decode cX4_advanceTillFramesAre 0 = .ok (.iconst 0, 1) := by decide +kernel
theorem dX4_advanceTillFramesAre_1 : decode cX4_advanceTillFramesAre 1 = .ok (.istore_n 2, 1) := by decide +kernel
theorem dX4_advanceTillFramesAre_2 : decode cX4_advanceTillFramesAre 2 = .ok (.iload_n 2, 1) := by decide +kernel
theorem dX4_advanceTillFramesAre_3 : decode cX4_advanceTillFramesAre 3 = .ok (.sipush 2000, 3) := by decide +kernel
theorem dX4_advanceTillFramesAre_6 : decode cX4_advanceTillFramesAre 6 = .ok (.if_icmp .gt 31, 3) := by decide +kernel
theorem dX4_advanceTillFramesAre_9 : decode cX4_advanceTillFramesAre 9 = .ok (.aload_n 0, 1) := by decide +kernel
theorem dX4_advanceTillFramesAre_10 : decode cX4_advanceTillFramesAre 10 = .ok (.invokevirtual 97, 3) := by decide +kernel
theorem dX4_advanceTillFramesAre_13 : decode cX4_advanceTillFramesAre 13 = .ok (.istore_n 3, 1) := by decide +kernel
theorem dX4_advanceTillFramesAre_14 : decode cX4_advanceTillFramesAre 14 = .ok (.iload_n 3, 1) := by decide +kernel
theorem dX4_advanceTillFramesAre_15 : decode cX4_advanceTillFramesAre 15 = .ok (.ifCond .ne 14, 3) := by decide +kernel
theorem dX4_advanceTillFramesAre_18 : decode cX4_advanceTillFramesAre 18 = .ok (.aload_n 0, 1) := by decide +kernel
theorem dX4_advanceTillFramesAre_19 : decode cX4_advanceTillFramesAre 19 = .ok (.getfield 27, 3) := by decide +kernel
theorem dX4_advanceTillFramesAre_22 : decode cX4_advanceTillFramesAre 22 = .ok (.getfield 101, 3) := by decide +kernel
theorem dX4_advanceTillFramesAre_25 : decode cX4_advanceTillFramesAre 25 = .ok (.iload_n 1, 1) := by decide +kernel
theorem dX4_advanceTillFramesAre_26 : decode cX4_advanceTillFramesAre 26 = .ok (.if_icmp .gt 5, 3) := by decide +kernel
theorem dX4_advanceTillFramesAre_29 : decode cX4_advanceTillFramesAre 29 = .ok (.iload_n 3, 1) := by decide +kernel
theorem dX4_advanceTillFramesAre_30 : decode cX4_advanceTillFramesAre 30 = .ok (.ireturn, 1) := by decide +kernel
theorem dX4_advanceTillFramesAre_31 : decode cX4_advanceTillFramesAre 31 = .ok (.iinc 2 1, 3) := by decide +kernel
theorem dX4_advanceTillFramesAre_34 : decode cX4_advanceTillFramesAre 34 = .ok (.goto (-32), 3) := by decide +kernel
theorem dX4_advanceTillFramesAre_37 : decode cX4_advanceTillFramesAre 37 = .ok (.iconst 5, 1) := by decide +kernel
theorem dX4_advanceTillFramesAre_38 : decode cX4_advanceTillFramesAre 38 = .ok (.ireturn, 1) := by decide +kernel
theorem dX4_travelTo_0 : decode cX4_travelTo 0 = .ok (.aload_n 0, 1) := by decide +kernel
theorem dX4_travelTo_1 : decode cX4_travelTo 1 = .ok (.getfield 46, 3) := by decide +kernel
theorem dX4_travelTo_4 : decode cX4_travelTo 4 = .ok (.iload_n 1, 1) := by decide +kernel
theorem dX4_travelTo_5 : decode cX4_travelTo 5 = .ok (.invokevirtual 115, 3) := by decide +kernel
theorem dX4_travelTo_8 : decode cX4_travelTo 8 = .ok (.istore_n 2, 1) := by decide +kernel
theorem dX4_travelTo_9 : decode cX4_travelTo 9 = .ok (.iload_n 1, 1) := by decide +kernel
theorem dX4_travelTo_10 : decode cX4_travelTo 10 = .ok (.aload_n 0, 1) := by decide +kernel
theorem dX4_travelTo_11 : decode cX4_travelTo 11 = .ok (.getfield 27, 3) := by decide +kernel
theorem dX4_travelTo_14 : decode cX4_travelTo 14 = .ok (.getfield 57, 3) := by decide +kernel
theorem dX4_travelTo_17 : decode cX4_travelTo 17 = .ok (.if_icmp .ge 23, 3) := by decide +kernel
theorem dX4_travelTo_20 : decode cX4_travelTo 20 = .ok (.iload_n 2, 1) := by decide +kernel
theorem dX4_travelTo_21 : decode cX4_travelTo 21 = .ok (.ifCond .lt 19, 3) := by decide +kernel
theorem dX4_travelTo_24 : decode cX4_travelTo 24 = .ok (.aload_n 0, 1) := by decide +kernel
theorem dX4_travelTo_25 : decode cX4_travelTo 25 = .ok (.getfield 27, 3) := by decide +kernel
theorem dX4_travelTo_28 : decode cX4_travelTo 28 = .ok (.aload_n 0, 1) := by decide +kernel
theorem dX4_travelTo_29 : decode cX4_travelTo 29 = .ok (.getfield 46, 3) := by decide +kernel
theorem dX4_travelTo_32 : decode cX4_travelTo 32 = .ok (.getfield 121, 3) := by decide +kernel
theorem dX4_travelTo_35 : decode cX4_travelTo 35 = .ok (.iload_n 2, 1) := by decide +kernel
theorem dX4_travelTo_36 : decode cX4_travelTo 36 = .ok (.aaload, 1) := by decide +kernel
theorem dX4_travelTo_37 : decode cX4_travelTo 37 = .ok (.invokevirtual 169, 3) := by decide +kernel
theorem dX4_travelTo_40 : decode cX4_travelTo 40 = .ok (.aload_n 0, 1) := by decide +kernel
theorem dX4_travelTo_41 : decode cX4_travelTo 41 = .ok (.iconst 0, 1) := by decide +kernel
theorem dX4_travelTo_42 : decode cX4_travelTo 42 = .ok (.putfield 108, 3) := by decide +kernel
theorem dX4_travelTo_45 : decode cX4_travelTo 45 = .ok (.aload_n 0, 1) := by decide +kernel
theorem dX4_travelTo_46 : decode cX4_travelTo 46 = .ok (.getfield 27, 3) := by decide +kernel
theorem dX4_travelTo_49 : decode cX4_travelTo 49 = .ok (.getfield 57, 3) := by decide +kernel
theorem dX4_travelTo_52 : decode cX4_travelTo 52 = .ok (.istore_n 3, 1) := by decide +kernel
theorem dX4_travelTo_53 : decode cX4_travelTo 53 = .ok (.iload_n 3, 1) := by decide +kernel
theorem dX4_travelTo_54 : decode cX4_travelTo 54 = .ok (.iload_n 1, 1) := by decide +kernel
theorem dX4_travelTo_55 : decode cX4_travelTo 55 = .ok (.if_icmp .ge 14, 3) := by decide +kernel
theorem dX4_travelTo_58 : decode cX4_travelTo 58 = .ok (.aload_n 0, 1) := by decide +kernel
theorem dX4_travelTo_59 : decode cX4_travelTo 59 = .ok (.invokevirtual 97, 3) := by decide +kernel
theorem dX4_travelTo_62 : decode cX4_travelTo 62 = .ok (.pop, 1) := by decide +kernel
theorem dX4_travelTo_63 : decode cX4_travelTo 63 = .ok (.iinc 3 1, 3) := by decide +kernel
theorem dX4_travelTo_66 : decode cX4_travelTo 66 = .ok (.goto (-13), 3) := by decide +kernel
theorem dX4_travelTo_69 : decode cX4_travelTo 69 = .ok (.aload_n 0, 1) := by decide +kernel
theorem dX4_travelTo_70 : decode cX4_travelTo 70 = .ok (.iconst 0, 1) := by decide +kernel
theorem dX4_travelTo_71 : decode cX4_travelTo 71 = .ok (.putfield 108, 3) := by decide +kernel
theorem dX4_travelTo_74 : decode cX4_travelTo 74 = .ok (.return_, 1) := by decide +kernel
theorem dX4_latestStop_0 : decode cX4_latestStop 0 = .ok (.aload_n 0, 1) := by decide +kernel
theorem dX4_latestStop_1 : decode cX4_latestStop 1 = .ok (.getfield 27, 3) := by decide +kernel
theorem dX4_latestStop_4 : decode cX4_latestStop 4 = .ok (.aload_n 0, 1) := by decide +kernel
theorem dX4_latestStop_5 : decode cX4_latestStop 5 = .ok (.getfield 46, 3) := by decide +kernel
theorem dX4_latestStop_8 : decode cX4_latestStop 8 = .ok (.getfield 121, 3) := by decide +kernel
theorem dX4_latestStop_11 : decode cX4_latestStop 11 = .ok (.iload_n 1, 1) := by decide +kernel
theorem dX4_latestStop_12 : decode cX4_latestStop 12 = .ok (.aaload, 1) := by decide +kernel
theorem dX4_latestStop_13 : decode cX4_latestStop 13 = .ok (.invokevirtual 169, 3) := by decide +kernel
theorem dX4_latestStop_16 : decode cX4_latestStop 16 = .ok (.aload_n 0, 1) := by decide +kernel
theorem dX4_latestStop_17 : decode cX4_latestStop 17 = .ok (.iconst 0, 1) := by decide +kernel
theorem dX4_latestStop_18 : decode cX4_latestStop 18 = .ok (.putfield 108, 3) := by decide +kernel
theorem dX4_latestStop_21 : decode cX4_latestStop 21 = .ok (.iconst 0, 1) := by decide +kernel
theorem dX4_latestStop_22 : decode cX4_latestStop 22 = .ok (.istore_n 3, 1) := by decide +kernel
theorem dX4_latestStop_23 : decode cX4_latestStop 23 = .ok (.aload_n 0, 1) := by decide +kernel
theorem dX4_latestStop_24 : decode cX4_latestStop 24 = .ok (.getfield 27, 3) := by decide +kernel
theorem dX4_latestStop_27 : decode cX4_latestStop 27 = .ok (.getfield 57, 3) := by decide +kernel
theorem dX4_latestStop_30 : decode cX4_latestStop 30 = .ok (.iconst 1, 1) := by decide +kernel
theorem dX4_latestStop_31 : decode cX4_latestStop 31 = .ok (.iadd, 1) := by decide +kernel
theorem dX4_latestStop_32 : decode cX4_latestStop 32 = .ok (.istore 4, 2) := by decide +kernel
theorem dX4_latestStop_34 : decode cX4_latestStop 34 = .ok (.iload 4, 2) := by decide +kernel
theorem dX4_latestStop_36 : decode cX4_latestStop 36 = .ok (.iload_n 2, 1) := by decide +kernel
theorem dX4_latestStop_37 : decode cX4_latestStop 37 = .ok (.if_icmp .gt 30, 3) := by decide +kernel
theorem dX4_latestStop_40 : decode cX4_latestStop 40 = .ok (.aload_n 0, 1) := by decide +kernel
theorem dX4_latestStop_41 : decode cX4_latestStop 41 = .ok (.invokevirtual 97, 3) := by decide +kernel
theorem dX4_latestStop_44 : decode cX4_latestStop 44 = .ok (.istore 5, 2) := by decide +kernel
theorem dX4_latestStop_46 : decode cX4_latestStop 46 = .ok (.iload 5, 2) := by decide +kernel
theorem dX4_latestStop_48 : decode cX4_latestStop 48 = .ok (.iconst 2, 1) := by decide +kernel
theorem dX4_latestStop_49 : decode cX4_latestStop 49 = .ok (.if_icmp .eq 9, 3) := by decide +kernel
theorem dX4_latestStop_52 : decode cX4_latestStop 52 = .ok (.iload 5, 2) := by decide +kernel
theorem dX4_latestStop_54 : decode cX4_latestStop 54 = .ok (.iconst 1, 1) := by decide +kernel
theorem dX4_latestStop_55 : decode cX4_latestStop 55 = .ok (.if_icmp .ne 6, 3) := by decide +kernel
theorem dX4_latestStop_58 : decode cX4_latestStop 58 = .ok (.iload 4, 2) := by decide +kernel
theorem dX4_latestStop_60 : decode cX4_latestStop 60 = .ok (.istore_n 3, 1) := by decide +kernel
theorem dX4_latestStop_61 : decode cX4_latestStop 61 = .ok (.iinc 4 1, 3) := by decide +kernel
theorem dX4_latestStop_64 : decode cX4_latestStop 64 = .ok (.goto (-30), 3) := by decide +kernel
theorem dX4_latestStop_67 : decode cX4_latestStop 67 = .ok (.iload_n 3, 1) := by decide +kernel
theorem dX4_latestStop_68 : decode cX4_latestStop 68 = .ok (.ireturn, 1) := by decide +kernel
theorem dX5_init_0 : decode cX5_init 0 = .ok (.aload_n 0, 1) := by decide +kernel
theorem dX5_init_1 : decode cX5_init 1 = .ok (.invokespecial 1, 3) := by decide +kernel
theorem dX5_init_4 : decode cX5_init 4 = .ok (.aload_n 0, 1) := by decide +kernel
theorem dX5_init_5 : decode cX5_init 5 = .ok (.bipush 80, 2) := by decide +kernel
theorem dX5_init_7 : decode cX5_init 7 = .ok (.newarray .int, 2) := by decide +kernel
theorem dX5_init_9 : decode cX5_init 9 = .ok (.putfield 7, 3) := by decide +kernel
theorem dX5_init_12 : decode cX5_init 12 = .ok (.aload_n 0, 1) := by decide +kernel
theorem dX5_init_13 : decode cX5_init 13 = .ok (.bipush 80, 2) := by decide +kernel
theorem dX5_init_15 : decode cX5_init 15 = .ok (.newarray .int, 2) := by decide +kernel
theorem dX5_init_17 : decode cX5_init 17 = .ok (.putfield 13, 3) := by decide +kernel
theorem dX5_init_20 : decode cX5_init 20 = .ok (.aload_n 0, 1) := by decide +kernel
theorem dX5_init_21 : decode cX5_init 21 = .ok (.bipush 80, 2) := by decide +kernel
theorem dX5_init_23 : decode cX5_init 23 = .ok (.newarray .int, 2) := by decide +kernel
theorem dX5_init_25 : decode cX5_init 25 = .ok (.putfield 16, 3) := by decide +kernel
theorem dX5_init_28 : decode cX5_init 28 = .ok (.aload_n 0, 1) := by decide +kernel
theorem dX5_init_29 : decode cX5_init 29 = .ok (.bipush 80, 2) := by decide +kernel
theorem dX5_init_31 : decode cX5_init 31 = .ok (.newarray .boolean, 2) := by decide +kernel
theorem dX5_init_33 : decode cX5_init 33 = .ok (.putfield 19, 3) := by decide +kernel
theorem dX5_init_36 : decode cX5_init 36 = .ok (.aload_n 0, 1) := by decide +kernel
theorem dX5_init_37 : decode cX5_init 37 = .ok (.bipush 64, 2) := by decide +kernel
theorem dX5_init_39 : decode cX5_init 39 = .ok (.newarray .boolean, 2) := by decide +kernel
theorem dX5_init_41 : decode cX5_init 41 = .ok (.putfield 23, 3) := by decide +kernel
theorem dX5_init_44 : decode cX5_init 44 = .ok (.aload_n 0, 1) := by decide +kernel
theorem dX5_init_45 : decode cX5_init 45 = .ok (.bipush 64, 2) := by decide +kernel
theorem dX5_init_47 : decode cX5_init 47 = .ok (.newarray .int, 2) := by decide +kernel
theorem dX5_init_49 : decode cX5_init 49 = .ok (.putfield 26, 3) := by decide +kernel
theorem dX5_init_52 : decode cX5_init 52 = .ok (.aload_n 0, 1) := by decide +kernel
theorem dX5_init_53 : decode cX5_init 53 = .ok (.bipush 64, 2) := by decide +kernel
theorem dX5_init_55 : decode cX5_init 55 = .ok (.newarray .int, 2) := by decide +kernel
theorem dX5_init_57 : decode cX5_init 57 = .ok (.putfield 29, 3) := by decide +kernel
theorem dX5_init_60 : decode cX5_init 60 = .ok (.aload_n 0, 1) := by decide +kernel
theorem dX5_init_61 : decode cX5_init 61 = .ok (.sipush 128, 3) := by decide +kernel
theorem dX5_init_64 : decode cX5_init 64 = .ok (.newarray .int, 2) := by decide +kernel
theorem dX5_init_66 : decode cX5_init 66 = .ok (.putfield 32, 3) := by decide +kernel
theorem dX5_init_69 : decode cX5_init 69 = .ok (.aload_n 0, 1) := by decide +kernel
theorem dX5_init_70 : decode cX5_init 70 = .ok (.bipush 16, 2) := by decide +kernel
theorem dX5_init_72 : decode cX5_init 72 = .ok (.newarray .int, 2) := by decide +kernel
theorem dX5_init_74 : decode cX5_init 74 = .ok (.putfield 35, 3) := by decide +kernel
theorem dX5_init_77 : decode cX5_init 77 = .ok (.aload_n 0, 1) := by decide +kernel
theorem dX5_init_78 : decode cX5_init 78 = .ok (.sipush 200, 3) := by decide +kernel
theorem dX5_init_81 : decode cX5_init 81 = .ok (.newarray .int, 2) := by decide +kernel
theorem dX5_init_83 : decode cX5_init 83 = .ok (.putfield 38, 3) := by decide +kernel
theorem dX5_init_86 : decode cX5_init 86 = .ok (.aload_n 0, 1) := by decide +kernel
theorem dX5_init_87 : decode cX5_init 87 = .ok (.bipush 8, 2) := by decide +kernel
theorem dX5_init_89 : decode cX5_init 89 = .ok (.newarray .int, 2) := by decide +kernel
theorem dX5_init_91 : decode cX5_init 91 = .ok (.putfield 41, 3) := by decide +kernel
theorem dX5_init_94 : decode cX5_init 94 = .ok (.aload_n 0, 1) := by decide +kernel
theorem dX5_init_95 : decode cX5_init 95 = .ok (.iload_n 1, 1) := by decide +kernel
theorem dX5_init_96 : decode cX5_init 96 = .ok (.iconst 1, 1) := by decide +kernel
theorem dX5_init_97 : decode cX5_init 97 = .ok (.if_icmp .ge 7, 3) := by decide +kernel
theorem dX5_init_100 : decode cX5_init 100 = .ok (.iconst 1, 1) := by decide +kernel
theorem dX5_init_101 : decode cX5_init 101 = .ok (.goto 15, 3) := by decide +kernel
theorem dX5_init_104 : decode cX5_init 104 = .ok (.iload_n 1, 1) := by decide +kernel
theorem dX5_init_105 : decode cX5_init 105 = .ok (.bipush 100, 2) := by decide +kernel
theorem dX5_init_107 : decode cX5_init 107 = .ok (.if_icmp .le 8, 3) := by decide +kernel
theorem dX5_init_110 : decode cX5_init 110 = .ok (.bipush 100, 2) := by decide +kernel
theorem dX5_init_112 : decode cX5_init 112 = .ok (.goto 4, 3) := by decide +kernel
theorem dX5_init_115 : decode cX5_init 115 = .ok (.iload_n 1, 1) := by decide +kernel
theorem dX5_init_116 : decode cX5_init 116 = .ok (.putfield 44, 3) := by decide +kernel
theorem dX5_init_119 : decode cX5_init 119 = .ok (.aload_n 0, 1) := by decide +kernel
theorem dX5_init_120 : decode cX5_init 120 = .ok (.invokevirtual 48, 3) := by decide +kernel
theorem dX5_init_123 : decode cX5_init 123 = .ok (.return_, 1) := by decide +kernel
theorem dX5_thrown_0 : decode cX5_thrown 0 = .ok (.aload_n 0, 1) := by decide +kernel
theorem dX5_thrown_1 : decode cX5_thrown 1 = .ok (.getfield 51, 3) := by decide +kernel
theorem dX5_thrown_4 : decode cX5_thrown 4 = .ok (.ireturn, 1) := by decide +kernel
theorem dX5_anew_0 : decode cX5_anew 0 = .ok (.aload_n 0, 1) := by decide +kernel
theorem dX5_anew_1 : decode cX5_anew 1 = .ok (.aload_n 0, 1) := by decide +kernel
theorem dX5_anew_2 : decode cX5_anew 2 = .ok (.getfield 44, 3) := by decide +kernel
theorem dX5_anew_5 : decode cX5_anew 5 = .ok (.putfield 54, 3) := by decide +kernel
theorem dX5_anew_8 : decode cX5_anew 8 = .ok (.aload_n 0, 1) := by decide +kernel
theorem dX5_anew_9 : decode cX5_anew 9 = .ok (.getfield 41, 3) := by decide +kernel
theorem dX5_anew_12 : decode cX5_anew 12 = .ok (.iconst 0, 1) := by decide +kernel
theorem dX5_anew_13 : decode cX5_anew 13 = .ok (.iconst 0, 1) := by decide +kernel
theorem dX5_anew_14 : decode cX5_anew 14 = .ok (.iastore, 1) := by decide +kernel
theorem dX5_anew_15 : decode cX5_anew 15 = .ok (.aload_n 0, 1) := by decide +kernel
theorem dX5_anew_16 : decode cX5_anew 16 = .ok (.iconst 1, 1) := by decide +kernel
theorem dX5_anew_17 : decode cX5_anew 17 = .ok (.putfield 57, 3) := by decide +kernel
theorem dX5_anew_20 : decode cX5_anew 20 = .ok (.aload_n 0, 1) := by decide +kernel
theorem dX5_anew_21 : decode cX5_anew 21 = .ok (.iconst 0, 1) := by decide +kernel
theorem dX5_anew_22 : decode cX5_anew 22 = .ok (.putfield 60, 3) := by decide +kernel
theorem dX5_anew_25 : decode cX5_anew 25 = .ok (.aload_n 0, 1) := by decide +kernel
theorem dX5_anew_26 : decode cX5_anew 26 = .ok (.iconst 0, 1) := by decide +kernel
theorem dX5_anew_27 : decode cX5_anew 27 = .ok (.putfield 63, 3) := by decide +kernel
theorem dX5_anew_30 : decode cX5_anew 30 = .ok (.aload_n 0, 1) := by decide +kernel
theorem dX5_anew_31 : decode cX5_anew 31 = .ok (.invokevirtual 67, 3) := by decide +kernel
theorem dX5_anew_34 : decode cX5_anew 34 = .ok (.return_, 1) := by decide +kernel
theorem dX5_begin_0 : decode cX5_begin 0 = .ok (.iconst 0, 1) := by decide +kernel
theorem dX5_begin_1 : decode cX5_begin 1 = .ok (.istore_n 1, 1) := by decide +kernel
theorem dX5_begin_2 : decode cX5_begin 2 = .ok (.iload_n 1, 1) := by decide +kernel
theorem dX5_begin_3 : decode cX5_begin 3 = .ok (.bipush 64, 2) := by decide +kernel
theorem dX5_begin_5 : decode cX5_begin 5 = .ok (.if_icmp .ge 21, 3) := by decide +kernel
theorem dX5_begin_8 : decode cX5_begin 8 = .ok (.aload_n 0, 1) := by decide +kernel
theorem dX5_begin_9 : decode cX5_begin 9 = .ok (.getfield 29, 3) := by decide +kernel
theorem dX5_begin_12 : decode cX5_begin 12 = .ok (.iload_n 1, 1) := by decide +kernel
theorem dX5_begin_13 : decode cX5_begin 13 = .ok (.aload_n 0, 1) := by decide +kernel
theorem dX5_begin_14 : decode cX5_begin 14 = .ok (.getfield 26, 3) := by decide +kernel
theorem dX5_begin_17 : decode cX5_begin 17 = .ok (.iload_n 1, 1) := by decide +kernel
theorem dX5_begin_18 : decode cX5_begin 18 = .ok (.iaload, 1) := by decide +kernel
theorem dX5_begin_19 : decode cX5_begin 19 = .ok (.iastore, 1) := by decide +kernel
theorem dX5_begin_20 : decode cX5_begin 20 = .ok (.iinc 1 1, 3) := by decide +kernel
theorem dX5_begin_23 : decode cX5_begin 23 = .ok (.goto (-21), 3) := by decide +kernel
theorem dX5_begin_26 : decode cX5_begin 26 = .ok (.iconst 0, 1) := by decide +kernel
theorem dX5_begin_27 : decode cX5_begin 27 = .ok (.istore_n 1, 1) := by decide +kernel
theorem dX5_begin_28 : decode cX5_begin 28 = .ok (.iload_n 1, 1) := by decide +kernel
theorem dX5_begin_29 : decode cX5_begin 29 = .ok (.sipush 128, 3) := by decide +kernel
theorem dX5_begin_32 : decode cX5_begin 32 = .ok (.if_icmp .ge 16, 3) := by decide +kernel
theorem dX5_begin_35 : decode cX5_begin 35 = .ok (.aload_n 0, 1) := by decide +kernel
theorem dX5_begin_36 : decode cX5_begin 36 = .ok (.getfield 32, 3) := by decide +kernel
theorem dX5_begin_39 : decode cX5_begin 39 = .ok (.iload_n 1, 1) := by decide +kernel
theorem dX5_begin_40 : decode cX5_begin 40 = .ok (.iconst 0, 1) := by decide +kernel
theorem dX5_begin_41 : decode cX5_begin 41 = .ok (.iastore, 1) := by decide +kernel
theorem dX5_begin_42 : decode cX5_begin 42 = .ok (.iinc 1 1, 3) := by decide +kernel
theorem dX5_begin_45 : decode cX5_begin 45 = .ok (.goto (-17), 3) := by decide +kernel
theorem dX5_begin_48 : decode cX5_begin 48 = .ok (.aload_n 0, 1) := by decide +kernel
theorem dX5_begin_49 : decode cX5_begin 49 = .ok (.iconst 1, 1) := by decide +kernel
theorem dX5_begin_50 : decode cX5_begin 50 = .ok (.putfield 70, 3) := by decide +kernel
theorem dX5_begin_53 : decode cX5_begin 53 = .ok (.aload_n 0, 1) := by decide +kernel
theorem dX5_begin_54 : decode cX5_begin 54 = .ok (.getfield 35, 3) := by decide +kernel
theorem dX5_begin_57 : decode cX5_begin 57 = .ok (.iconst 0, 1) := by decide +kernel
theorem dX5_begin_58 : decode cX5_begin 58 = .ok (.iconst 0, 1) := by decide +kernel
theorem dX5_begin_59 : decode cX5_begin 59 = .ok (.iastore, 1) := by decide +kernel
theorem dX5_begin_60 : decode cX5_begin 60 = .ok (.aload_n 0, 1) := by decide +kernel
theorem dX5_begin_61 : decode cX5_begin 61 = .ok (.iconst 0, 1) := by decide +kernel
theorem dX5_begin_62 : decode cX5_begin 62 = .ok (.putfield 73, 3) := by decide +kernel
theorem dX5_begin_65 : decode cX5_begin 65 = .ok (.aload_n 0, 1) := by decide +kernel
theorem dX5_begin_66 : decode cX5_begin 66 = .ok (.iconst 0, 1) := by decide +kernel
theorem dX5_begin_67 : decode cX5_begin 67 = .ok (.putfield 76, 3) := by decide +kernel
theorem dX5_begin_70 : decode cX5_begin 70 = .ok (.aload_n 0, 1) := by decide +kernel
theorem dX5_begin_71 : decode cX5_begin 71 = .ok (.iconst 0, 1) := by decide +kernel
theorem dX5_begin_72 : decode cX5_begin 72 = .ok (.putfield 79, 3) := by decide +kernel
theorem dX5_begin_75 : decode cX5_begin 75 = .ok (.aload_n 0, 1) := by decide +kernel
theorem dX5_begin_76 : decode cX5_begin 76 = .ok (.iconst (-1), 1) := by decide +kernel
theorem dX5_begin_77 : decode cX5_begin 77 = .ok (.putfield 82, 3) := by decide +kernel
theorem dX5_begin_80 : decode cX5_begin 80 = .ok (.return_, 1) := by decide +kernel
theorem dX5_isLocal_0 : decode cX5_isLocal 0 = .ok (.iload_n 0, 1) := by decide +kernel
theorem dX5_isLocal_1 : decode cX5_isLocal 1 = .ok (.ifCond .lt 13, 3) := by decide +kernel
theorem dX5_isLocal_4 : decode cX5_isLocal 4 = .ok (.iload_n 0, 1) := by decide +kernel
theorem dX5_isLocal_5 : decode cX5_isLocal 5 = .ok (.bipush 8, 2) := by decide +kernel
theorem dX5_isLocal_7 : decode cX5_isLocal 7 = .ok (.if_icmp .ge 7, 3) := by decide +kernel
theorem dX5_isLocal_10 : decode cX5_isLocal 10 = .ok (.iconst 1, 1) := by decide +kernel
theorem dX5_isLocal_11 : decode cX5_isLocal 11 = .ok (.goto 4, 3) := by decide +kernel
theorem dX5_isLocal_14 : decode cX5_isLocal 14 = .ok (.iconst 0, 1) := by decide +kernel
theorem dX5_isLocal_15 : decode cX5_isLocal 15 = .ok (.ireturn, 1) := by decide +kernel
theorem dX5_isRight_0 : decode cX5_isRight 0 = .ok (.iload_n 0, 1) := by decide +kernel
theorem dX5_isRight_1 : decode cX5_isRight 1 = .ok (.tableswitch 104 0 11 #[63, 68, 68, 68, 68, 68, 68, 104, 63, 88, 63, 63], 63) := by decide +kernel
theorem dX5_isRight_64 : decode cX5_isRight 64 = .ok (.iload_n 1, 1) := by decide +kernel
theorem dX5_isRight_65 : decode cX5_isRight 65 = .ok (.invokestatic 85, 3) := by decide +kernel
theorem dX5_isRight_68 : decode cX5_isRight 68 = .ok (.ireturn, 1) := by decide +kernel
theorem dX5_isRight_69 : decode cX5_isRight 69 = .ok (.iload_n 1, 1) := by decide +kernel
theorem dX5_isRight_70 : decode cX5_isRight 70 = .ok (.invokestatic 85, 3) := by decide +kernel
theorem dX5_isRight_73 : decode cX5_isRight 73 = .ok (.ifCond .eq 14, 3) := by decide +kernel
theorem dX5_isRight_76 : decode cX5_isRight 76 = .ok (.iload_n 2, 1) := by decide +kernel
theorem dX5_isRight_77 : decode cX5_isRight 77 = .ok (.invokestatic 85, 3) := by decide +kernel
theorem dX5_isRight_80 : decode cX5_isRight 80 = .ok (.ifCond .eq 7, 3) := by decide +kernel
theorem dX5_isRight_83 : decode cX5_isRight 83 = .ok (.iconst 1, 1) := by decide +kernel
theorem dX5_isRight_84 : decode cX5_isRight 84 = .ok (.goto 4, 3) := by decide +kernel
theorem dX5_isRight_87 : decode cX5_isRight 87 = .ok (.iconst 0, 1) := by decide +kernel
theorem dX5_isRight_88 : decode cX5_isRight 88 = .ok (.ireturn, 1) := by decide +kernel
theorem dX5_isRight_89 : decode cX5_isRight 89 = .ok (.iload_n 2, 1) := by decide +kernel
theorem dX5_isRight_90 : decode cX5_isRight 90 = .ok (.ifCond .lt 13, 3) := by decide +kernel
theorem dX5_isRight_93 : decode cX5_isRight 93 = .ok (.iload_n 2, 1) := by decide +kernel
theorem dX5_isRight_94 : decode cX5_isRight 94 = .ok (.bipush 8, 2) := by decide +kernel
theorem dX5_isRight_96 : decode cX5_isRight 96 = .ok (.if_icmp .gt 7, 3) := by decide +kernel
theorem dX5_isRight_99 : decode cX5_isRight 99 = .ok (.iconst 1, 1) := by decide +kernel
theorem dX5_isRight_100 : decode cX5_isRight 100 = .ok (.goto 4, 3) := by decide +kernel
theorem dX5_isRight_103 : decode cX5_isRight 103 = .ok (.iconst 0, 1) := by decide +kernel
theorem dX5_isRight_104 : decode cX5_isRight 104 = .ok (.ireturn, 1) := by decide +kernel
theorem dX5_isRight_105 : decode cX5_isRight 105 = .ok (.iload_n 0, 1) := by decide +kernel
theorem dX5_isRight_106 : decode cX5_isRight 106 = .ok (.bipush 7, 2) := by decide +kernel
theorem dX5_isRight_108 : decode cX5_isRight 108 = .ok (.if_icmp .eq 9, 3) := by decide +kernel
theorem dX5_isRight_111 : decode cX5_isRight 111 = .ok (.iload_n 0, 1) := by decide +kernel
theorem dX5_isRight_112 : decode cX5_isRight 112 = .ok (.bipush 12, 2) := by decide +kernel
theorem dX5_isRight_114 : decode cX5_isRight 114 = .ok (.if_icmp .ne 7, 3) := by decide +kernel
theorem dX5_isRight_117 : decode cX5_isRight 117 = .ok (.iconst 1, 1) := by decide +kernel
theorem dX5_isRight_118 : decode cX5_isRight 118 = .ok (.goto 4, 3) := by decide +kernel
theorem dX5_isRight_121 : decode cX5_isRight 121 = .ok (.iconst 0, 1) := by decide +kernel
theorem dX5_isRight_122 : decode cX5_isRight 122 = .ok (.ireturn, 1) := by decide +kernel
theorem dX5_line_0 : decode cX5_line 0 = .ok (.aload_n 0, 1) := by decide +kernel
theorem dX5_line_1 : decode cX5_line 1 = .ok (.iload_n 1, 1) := by decide +kernel
theorem dX5_line_2 : decode cX5_line 2 = .ok (.iload_n 2, 1) := by decide +kernel
theorem dX5_line_3 : decode cX5_line 3 = .ok (.iload_n 3, 1) := by decide +kernel
theorem dX5_line_4 : decode cX5_line 4 = .ok (.invokestatic 89, 3) := by decide +kernel
theorem dX5_line_7 : decode cX5_line 7 = .ok (.ifCond .ne 7, 3) := by decide +kernel
theorem dX5_line_10 : decode cX5_line 10 = .ok (.iconst 1, 1) := by decide +kernel
theorem dX5_line_11 : decode cX5_line 11 = .ok (.goto 28, 3) := by decide +kernel
theorem dX5_line_14 : decode cX5_line 14 = .ok (.aload_n 0, 1) := by decide +kernel
theorem dX5_line_15 : decode cX5_line 15 = .ok (.getfield 73, 3) := by decide +kernel
theorem dX5_line_18 : decode cX5_line 18 = .ok (.ifCond .eq 7, 3) := by decide +kernel
theorem dX5_line_21 : decode cX5_line 21 = .ok (.iconst 2, 1) := by decide +kernel
theorem dX5_line_22 : decode cX5_line 22 = .ok (.goto 17, 3) := by decide +kernel
theorem dX5_line_25 : decode cX5_line 25 = .ok (.aload_n 0, 1) := by decide +kernel
theorem dX5_line_26 : decode cX5_line 26 = .ok (.getfield 93, 3) := by decide +kernel
theorem dX5_line_29 : decode cX5_line 29 = .ok (.bipush 80, 2) := by decide +kernel
theorem dX5_line_31 : decode cX5_line 31 = .ok (.if_icmp .ne 7, 3) := by decide +kernel
theorem dX5_line_34 : decode cX5_line 34 = .ok (.iconst 3, 1) := by decide +kernel
theorem dX5_line_35 : decode cX5_line 35 = .ok (.goto 4, 3) := by decide +kernel
theorem dX5_line_38 : decode cX5_line 38 = .ok (.iconst 0, 1) := by decide +kernel
theorem dX5_line_39 : decode cX5_line 39 = .ok (.putfield 51, 3) := by decide +kernel
theorem dX5_line_42 : decode cX5_line 42 = .ok (.aload_n 0, 1) := by decide +kernel
theorem dX5_line_43 : decode cX5_line 43 = .ok (.getfield 51, 3) := by decide +kernel
theorem dX5_line_46 : decode cX5_line 46 = .ok (.ifCond .le 5, 3) := by decide +kernel
theorem dX5_line_49 : decode cX5_line 49 = .ok (.iconst 0, 1) := by decide +kernel
theorem dX5_line_50 : decode cX5_line 50 = .ok (.ireturn, 1) := by decide +kernel
theorem dX5_line_51 : decode cX5_line 51 = .ok (.aload_n 0, 1) := by decide +kernel
theorem dX5_line_52 : decode cX5_line 52 = .ok (.getfield 7, 3) := by decide +kernel
theorem dX5_line_55 : decode cX5_line 55 = .ok (.aload_n 0, 1) := by decide +kernel
theorem dX5_line_56 : decode cX5_line 56 = .ok (.getfield 93, 3) := by decide +kernel
theorem dX5_line_59 : decode cX5_line 59 = .ok (.iload_n 1, 1) := by decide +kernel
theorem dX5_line_60 : decode cX5_line 60 = .ok (.iastore, 1) := by decide +kernel
theorem dX5_line_61 : decode cX5_line 61 = .ok (.aload_n 0, 1) := by decide +kernel
theorem dX5_line_62 : decode cX5_line 62 = .ok (.getfield 13, 3) := by decide +kernel
theorem dX5_line_65 : decode cX5_line 65 = .ok (.aload_n 0, 1) := by decide +kernel
theorem dX5_line_66 : decode cX5_line 66 = .ok (.getfield 93, 3) := by decide +kernel
theorem dX5_line_69 : decode cX5_line 69 = .ok (.iload_n 2, 1) := by decide +kernel
theorem dX5_line_70 : decode cX5_line 70 = .ok (.iastore, 1) := by decide +kernel
theorem dX5_line_71 : decode cX5_line 71 = .ok (.aload_n 0, 1) := by decide +kernel
theorem dX5_line_72 : decode cX5_line 72 = .ok (.getfield 16, 3) := by decide +kernel
theorem dX5_line_75 : decode cX5_line 75 = .ok (.aload_n 0, 1) := by decide +kernel
theorem dX5_line_76 : decode cX5_line 76 = .ok (.getfield 93, 3) := by decide +kernel
theorem dX5_line_79 : decode cX5_line 79 = .ok (.iload_n 3, 1) := by decide +kernel
theorem dX5_line_80 : decode cX5_line 80 = .ok (.iastore, 1) := by decide +kernel
theorem dX5_line_81 : decode cX5_line 81 = .ok (.aload_n 0, 1) := by decide +kernel
theorem dX5_line_82 : decode cX5_line 82 = .ok (.getfield 19, 3) := by decide +kernel
theorem dX5_line_85 : decode cX5_line 85 = .ok (.aload_n 0, 1) := by decide +kernel
theorem dX5_line_86 : decode cX5_line 86 = .ok (.getfield 93, 3) := by decide +kernel
theorem dX5_line_89 : decode cX5_line 89 = .ok (.iconst 0, 1) := by decide +kernel
