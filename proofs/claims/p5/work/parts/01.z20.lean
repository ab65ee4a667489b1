theorem dX5_oneMore_26 : decode cX5_oneMore 26 = .ok (.goto 38, 3) := by decide +kernel
theorem dX5_oneMore_29 : decode cX5_oneMore 29 = .ok (.aload_n 0, 1) := by decide +kernel
theorem dX5_oneMore_30 : decode cX5_oneMore 30 = .ok (.getfield 82, 3) := by decide +kernel
theorem dX5_oneMore_33 : decode cX5_oneMore 33 = .ok (.ifCond .lt 19, 3) := by decide +kernel
theorem dX5_oneMore_36 : decode cX5_oneMore 36 = .ok (.aload_n 0, 1) := by decide +kernel
theorem dX5_oneMore_37 : decode cX5_oneMore 37 = .ok (.getfield 23, 3) := by decide +kernel
theorem dX5_oneMore_40 : decode cX5_oneMore 40 = .ok (.aload_n 0, 1) := by decide +kernel
theorem dX5_oneMore_41 : decode cX5_oneMore 41 = .ok (.getfield 82, 3) := by decide +kernel
theorem dX5_oneMore_44 : decode cX5_oneMore 44 = .ok (.baload, 1) := by decide +kernel
theorem dX5_oneMore_45 : decode cX5_oneMore 45 = .ok (.ifCond .eq 7, 3) := by decide +kernel
theorem dX5_oneMore_48 : decode cX5_oneMore 48 = .ok (.iconst 2, 1) := by decide +kernel
theorem dX5_oneMore_49 : decode cX5_oneMore 49 = .ok (.goto 15, 3) := by decide +kernel
theorem dX5_oneMore_52 : decode cX5_oneMore 52 = .ok (.aload_n 0, 1) := by decide +kernel
theorem dX5_oneMore_53 : decode cX5_oneMore 53 = .ok (.invokevirtual 106, 3) := by decide +kernel
theorem dX5_oneMore_56 : decode cX5_oneMore 56 = .ok (.ifCond .eq 7, 3) := by decide +kernel
theorem dX5_oneMore_59 : decode cX5_oneMore 59 = .ok (.iconst 1, 1) := by decide +kernel
theorem dX5_oneMore_60 : decode cX5_oneMore 60 = .ok (.goto 4, 3) := by decide +kernel
theorem dX5_oneMore_63 : decode cX5_oneMore 63 = .ok (.iconst 0, 1) := by decide +kernel
theorem dX5_oneMore_64 : decode cX5_oneMore 64 = .ok (.ireturn, 1) := by decide +kernel
theorem dX5_step_0 : decode cX5_step 0 = .ok (.aload_n 0, 1) := by decide +kernel
theorem dX5_step_1 : decode cX5_step 1 = .ok (.iconst 0, 1) := by decide +kernel
theorem dX5_step_2 : decode cX5_step 2 = .ok (.putfield 51, 3) := by decide +kernel
theorem dX5_step_5 : decode cX5_step 5 = .ok (.aload_n 0, 1) := by decide +kernel
theorem dX5_step_6 : decode cX5_step 6 = .ok (.invokevirtual 109, 3) := by decide +kernel
theorem dX5_step_9 : decode cX5_step 9 = .ok (.istore_n 1, 1) := by decide +kernel
theorem dX5_step_10 : decode cX5_step 10 = .ok (.iload_n 1, 1) := by decide +kernel
theorem dX5_step_11 : decode cX5_step 11 = .ok (.ifCond .eq 5, 3) := by decide +kernel
theorem dX5_step_14 : decode cX5_step 14 = .ok (.iload_n 1, 1) := by decide +kernel
theorem dX5_step_15 : decode cX5_step 15 = .ok (.ireturn, 1) := by decide +kernel
theorem dX5_step_16 : decode cX5_step 16 = .ok (.aload_n 0, 1) := by decide +kernel
theorem dX5_step_17 : decode cX5_step 17 = .ok (.invokevirtual 113, 3) := by decide +kernel
theorem dX5_step_20 : decode cX5_step 20 = .ok (.istore_n 1, 1) := by decide +kernel
theorem dX5_step_21 : decode cX5_step 21 = .ok (.iload_n 1, 1) := by decide +kernel
theorem dX5_step_22 : decode cX5_step 22 = .ok (.iconst 1, 1) := by decide +kernel
theorem dX5_step_23 : decode cX5_step 23 = .ok (.if_icmp .ne 7, 3) := by decide +kernel
theorem dX5_step_26 : decode cX5_step 26 = .ok (.iconst 0, 1) := by decide +kernel
theorem dX5_step_27 : decode cX5_step 27 = .ok (.goto 4, 3) := by decide +kernel
theorem dX5_step_30 : decode cX5_step 30 = .ok (.iload_n 1, 1) := by decide +kernel
theorem dX5_step_31 : decode cX5_step 31 = .ok (.ireturn, 1) := by decide +kernel
theorem dX5_goTill_0 : decode cX5_goTill 0 = .ok (.aload_n 0, 1) := by decide +kernel
theorem dX5_goTill_1 : decode cX5_goTill 1 = .ok (.invokevirtual 109, 3) := by decide +kernel
theorem dX5_goTill_4 : decode cX5_goTill 4 = .ok (.istore_n 2, 1) := by decide +kernel
theorem dX5_goTill_5 : decode cX5_goTill 5 = .ok (.iload_n 2, 1) := by decide +kernel
theorem dX5_goTill_6 : decode cX5_goTill 6 = .ok (.ifCond .ne 45, 3) := by decide +kernel
theorem dX5_goTill_9 : decode cX5_goTill 9 = .ok (.aload_n 0, 1) := by decide +kernel
theorem dX5_goTill_10 : decode cX5_goTill 10 = .ok (.invokevirtual 113, 3) := by decide +kernel
theorem dX5_goTill_13 : decode cX5_goTill 13 = .ok (.istore_n 2, 1) := by decide +kernel
theorem dX5_goTill_14 : decode cX5_goTill 14 = .ok (.iload_n 2, 1) := by decide +kernel
theorem dX5_goTill_15 : decode cX5_goTill 15 = .ok (.ifCond .ne 13, 3) := by decide +kernel
theorem dX5_goTill_18 : decode cX5_goTill 18 = .ok (.aload_n 0, 1) := by decide +kernel
theorem dX5_goTill_19 : decode cX5_goTill 19 = .ok (.getfield 70, 3) := by decide +kernel
theorem dX5_goTill_22 : decode cX5_goTill 22 = .ok (.iload_n 1, 1) := by decide +kernel
theorem dX5_goTill_23 : decode cX5_goTill 23 = .ok (.if_icmp .gt 5, 3) := by decide +kernel
theorem dX5_goTill_26 : decode cX5_goTill 26 = .ok (.iconst 0, 1) := by decide +kernel
theorem dX5_goTill_27 : decode cX5_goTill 27 = .ok (.ireturn, 1) := by decide +kernel
theorem dX5_goTill_28 : decode cX5_goTill 28 = .ok (.iload_n 2, 1) := by decide +kernel
theorem dX5_goTill_29 : decode cX5_goTill 29 = .ok (.ifCond .ne 17, 3) := by decide +kernel
theorem dX5_goTill_32 : decode cX5_goTill 32 = .ok (.aload_n 0, 1) := by decide +kernel
theorem dX5_goTill_33 : decode cX5_goTill 33 = .ok (.getfield 73, 3) := by decide +kernel
theorem dX5_goTill_36 : decode cX5_goTill 36 = .ok (.sipush 2000, 3) := by decide +kernel
theorem dX5_goTill_39 : decode cX5_goTill 39 = .ok (.if_icmp .ne 7, 3) := by decide +kernel
theorem dX5_goTill_42 : decode cX5_goTill 42 = .ok (.iconst 5, 1) := by decide +kernel
theorem dX5_goTill_43 : decode cX5_goTill 43 = .ok (.goto 4, 3) := by decide +kernel
theorem dX5_goTill_46 : decode cX5_goTill 46 = .ok (.iload_n 2, 1) := by decide +kernel
theorem dX5_goTill_47 : decode cX5_goTill 47 = .ok (.istore_n 2, 1) := by decide +kernel
theorem dX5_goTill_48 : decode cX5_goTill 48 = .ok (.goto (-43), 3) := by decide +kernel
theorem dX5_goTill_51 : decode cX5_goTill 51 = .ok (.iload_n 2, 1) := by decide +kernel
theorem dX5_goTill_52 : decode cX5_goTill 52 = .ok (.ireturn, 1) := by decide +kernel
theorem dX5_next_0 : decode cX5_next 0 = .ok (.aload_n 0, 1) := by decide +kernel
theorem dX5_next_1 : decode cX5_next 1 = .ok (.iconst 0, 1) := by decide +kernel
theorem dX5_next_2 : decode cX5_next 2 = .ok (.putfield 51, 3) := by decide +kernel
theorem dX5_next_5 : decode cX5_next 5 = .ok (.aload_n 0, 1) := by decide +kernel
theorem dX5_next_6 : decode cX5_next 6 = .ok (.aload_n 0, 1) := by decide +kernel
theorem dX5_next_7 : decode cX5_next 7 = .ok (.getfield 70, 3) := by decide +kernel
theorem dX5_next_10 : decode cX5_next 10 = .ok (.invokevirtual 116, 3) := by decide +kernel
theorem dX5_next_13 : decode cX5_next 13 = .ok (.ireturn, 1) := by decide +kernel
theorem dX5_finish_0 : decode cX5_finish 0 = .ok (.aload_n 0, 1) := by decide +kernel
theorem dX5_finish_1 : decode cX5_finish 1 = .ok (.iconst 0, 1) := by decide +kernel
theorem dX5_finish_2 : decode cX5_finish 2 = .ok (.putfield 51, 3) := by decide +kernel
theorem dX5_finish_5 : decode cX5_finish 5 = .ok (.aload_n 0, 1) := by decide +kernel
theorem dX5_finish_6 : decode cX5_finish 6 = .ok (.aload_n 0, 1) := by decide +kernel
theorem dX5_finish_7 : decode cX5_finish 7 = .ok (.getfield 70, 3) := by decide +kernel
theorem dX5_finish_10 : decode cX5_finish 10 = .ok (.iconst 1, 1) := by decide +kernel
theorem dX5_finish_11 : decode cX5_finish 11 = .ok (.isub, 1) := by decide +kernel
theorem dX5_finish_12 : decode cX5_finish 12 = .ok (.invokevirtual 116, 3) := by decide +kernel
theorem dX5_finish_15 : decode cX5_finish 15 = .ok (.ireturn, 1) := by decide +kernel
theorem dX5_go_0 : decode cX5_go 0 = .ok (.aload_n 0, 1) := by decide +kernel
theorem dX5_go_1 : decode cX5_go 1 = .ok (.iconst 0, 1) := by decide +kernel
theorem dX5_go_2 : decode cX5_go 2 = .ok (.putfield 51, 3) := by decide +kernel
theorem dX5_go_5 : decode cX5_go 5 = .ok (.aload_n 0, 1) := by decide +kernel
theorem dX5_go_6 : decode cX5_go 6 = .ok (.iconst (-1), 1) := by decide +kernel
theorem dX5_go_7 : decode cX5_go 7 = .ok (.invokevirtual 116, 3) := by decide +kernel
theorem dX5_go_10 : decode cX5_go 10 = .ok (.ireturn, 1) := by decide +kernel
theorem dX5_replay_0 : decode cX5_replay 0 = .ok (.aload_n 0, 1) := by decide +kernel
theorem dX5_replay_1 : decode cX5_replay 1 = .ok (.invokevirtual 67, 3) := by decide +kernel
theorem dX5_replay_4 : decode cX5_replay 4 = .ok (.iconst 1, 1) := by decide +kernel
theorem dX5_replay_5 : decode cX5_replay 5 = .ok (.istore_n 2, 1) := by decide +kernel
theorem dX5_replay_6 : decode cX5_replay 6 = .ok (.iload_n 2, 1) := by decide +kernel
theorem dX5_replay_7 : decode cX5_replay 7 = .ok (.ifCond .eq 19, 3) := by decide +kernel
theorem dX5_replay_10 : decode cX5_replay 10 = .ok (.aload_n 0, 1) := by decide +kernel
theorem dX5_replay_11 : decode cX5_replay 11 = .ok (.getfield 73, 3) := by decide +kernel
theorem dX5_replay_14 : decode cX5_replay 14 = .ok (.iload_n 1, 1) := by decide +kernel
theorem dX5_replay_15 : decode cX5_replay 15 = .ok (.if_icmp .ge 11, 3) := by decide +kernel
theorem dX5_replay_18 : decode cX5_replay 18 = .ok (.aload_n 0, 1) := by decide +kernel
theorem dX5_replay_19 : decode cX5_replay 19 = .ok (.invokevirtual 99, 3) := by decide +kernel
theorem dX5_replay_22 : decode cX5_replay 22 = .ok (.istore_n 2, 1) := by decide +kernel
theorem dX5_replay_23 : decode cX5_replay 23 = .ok (.goto (-17), 3) := by decide +kernel
theorem dX5_replay_26 : decode cX5_replay 26 = .ok (.return_, 1) := by decide +kernel
theorem dX5_back_0 : decode cX5_back 0 = .ok (.aload_n 0, 1) := by decide +kernel
theorem dX5_back_1 : decode cX5_back 1 = .ok (.iconst 0, 1) := by decide +kernel
theorem dX5_back_2 : decode cX5_back 2 = .ok (.putfield 51, 3) := by decide +kernel
theorem dX5_back_5 : decode cX5_back 5 = .ok (.aload_n 0, 1) := by decide +kernel
theorem dX5_back_6 : decode cX5_back 6 = .ok (.iconst 0, 1) := by decide +kernel
theorem dX5_back_7 : decode cX5_back 7 = .ok (.putfield 63, 3) := by decide +kernel
theorem dX5_back_10 : decode cX5_back 10 = .ok (.aload_n 0, 1) := by decide +kernel
theorem dX5_back_11 : decode cX5_back 11 = .ok (.getfield 73, 3) := by decide +kernel
theorem dX5_back_14 : decode cX5_back 14 = .ok (.ifCond .ne 6, 3) := by decide +kernel
theorem dX5_back_17 : decode cX5_back 17 = .ok (.bipush 6, 2) := by decide +kernel
theorem dX5_back_19 : decode cX5_back 19 = .ok (.ireturn, 1) := by decide +kernel
theorem dX5_back_20 : decode cX5_back 20 = .ok (.aload_n 0, 1) := by decide +kernel
theorem dX5_back_21 : decode cX5_back 21 = .ok (.aload_n 0, 1) := by decide +kernel
theorem dX5_back_22 : decode cX5_back 22 = .ok (.getfield 73, 3) := by decide +kernel
theorem dX5_back_25 : decode cX5_back 25 = .ok (.iconst 1, 1) := by decide +kernel
theorem dX5_back_26 : decode cX5_back 26 = .ok (.isub, 1) := by decide +kernel
theorem dX5_back_27 : decode cX5_back 27 = .ok (.invokevirtual 120, 3) := by decide +kernel
theorem dX5_back_30 : decode cX5_back 30 = .ok (.iconst 0, 1) := by decide +kernel
theorem dX5_back_31 : decode cX5_back 31 = .ok (.ireturn, 1) := by decide +kernel
theorem dX5_reverse_0 : decode cX5_reverse 0 = .ok (.aload_n 0, 1) := by decide +kernel
theorem dX5_reverse_1 : decode cX5_reverse 1 = .ok (.iconst 0, 1) := by decide +kernel
theorem dX5_reverse_2 : decode cX5_reverse 2 = .ok (.putfield 51, 3) := by decide +kernel
theorem dX5_reverse_5 : decode cX5_reverse 5 = .ok (.aload_n 0, 1) := by decide +kernel
theorem dX5_reverse_6 : decode cX5_reverse 6 = .ok (.iconst 0, 1) := by decide +kernel
theorem dX5_reverse_7 : decode cX5_reverse 7 = .ok (.putfield 63, 3) := by decide +kernel
theorem dX5_reverse_10 : decode cX5_reverse 10 = .ok (.aload_n 0, 1) := by decide +kernel
theorem dX5_reverse_11 : decode cX5_reverse 11 = .ok (.getfield 73, 3) := by decide +kernel
theorem dX5_reverse_14 : decode cX5_reverse 14 = .ok (.ifCond .ne 6, 3) := by decide +kernel
theorem dX5_reverse_17 : decode cX5_reverse 17 = .ok (.bipush 6, 2) := by decide +kernel
theorem dX5_reverse_19 : decode cX5_reverse 19 = .ok (.ireturn, 1) := by decide +kernel
theorem dX5_reverse_20 : decode cX5_reverse 20 = .ok (.aload_n 0, 1) := by decide +kernel
theorem dX5_reverse_21 : decode cX5_reverse 21 = .ok (.getfield 73, 3) := by decide +kernel
theorem dX5_reverse_24 : decode cX5_reverse 24 = .ok (.istore_n 1, 1) := by decide +kernel
theorem dX5_reverse_25 : decode cX5_reverse 25 = .ok (.iconst 0, 1) := by decide +kernel
theorem dX5_reverse_26 : decode cX5_reverse 26 = .ok (.istore_n 2, 1) := by decide +kernel
theorem dX5_reverse_27 : decode cX5_reverse 27 = .ok (.bipush 6, 2) := by decide +kernel
theorem dX5_reverse_29 : decode cX5_reverse 29 = .ok (.istore_n 3, 1) := by decide +kernel
theorem dX5_reverse_30 : decode cX5_reverse 30 = .ok (.aload_n 0, 1) := by decide +kernel
theorem dX5_reverse_31 : decode cX5_reverse 31 = .ok (.invokevirtual 67, 3) := by decide +kernel
theorem dX5_reverse_34 : decode cX5_reverse 34 = .ok (.aload_n 0, 1) := by decide +kernel
theorem dX5_reverse_35 : decode cX5_reverse 35 = .ok (.getfield 73, 3) := by decide +kernel
theorem dX5_reverse_38 : decode cX5_reverse 38 = .ok (.iload_n 1, 1) := by decide +kernel
theorem dX5_reverse_39 : decode cX5_reverse 39 = .ok (.iconst 1, 1) := by decide +kernel
theorem dX5_reverse_40 : decode cX5_reverse 40 = .ok (.isub, 1) := by decide +kernel
theorem dX5_reverse_41 : decode cX5_reverse 41 = .ok (.if_icmp .ge 66, 3) := by decide +kernel
theorem dX5_reverse_44 : decode cX5_reverse 44 = .ok (.aload_n 0, 1) := by decide +kernel
theorem dX5_reverse_45 : decode cX5_reverse 45 = .ok (.invokevirtual 99, 3) := by decide +kernel
theorem dX5_reverse_48 : decode cX5_reverse 48 = .ok (.istore 4, 2) := by decide +kernel
theorem dX5_reverse_50 : decode cX5_reverse 50 = .ok (.aload_n 0, 1) := by decide +kernel
theorem dX5_reverse_51 : decode cX5_reverse 51 = .ok (.getfield 82, 3) := by decide +kernel
theorem dX5_reverse_54 : decode cX5_reverse 54 = .ok (.ifCond .lt 19, 3) := by decide +kernel
theorem dX5_reverse_57 : decode cX5_reverse 57 = .ok (.aload_n 0, 1) := by decide +kernel
theorem dX5_reverse_58 : decode cX5_reverse 58 = .ok (.getfield 23, 3) := by decide +kernel
theorem dX5_reverse_61 : decode cX5_reverse 61 = .ok (.aload_n 0, 1) := by decide +kernel
theorem dX5_reverse_62 : decode cX5_reverse 62 = .ok (.getfield 82, 3) := by decide +kernel
theorem dX5_reverse_65 : decode cX5_reverse 65 = .ok (.baload, 1) := by decide +kernel
theorem dX5_reverse_66 : decode cX5_reverse 66 = .ok (.ifCond .eq 7, 3) := by decide +kernel
theorem dX5_reverse_69 : decode cX5_reverse 69 = .ok (.iconst 1, 1) := by decide +kernel
theorem dX5_reverse_70 : decode cX5_reverse 70 = .ok (.goto 4, 3) := by decide +kernel
theorem dX5_reverse_73 : decode cX5_reverse 73 = .ok (.iconst 0, 1) := by decide +kernel
theorem dX5_reverse_74 : decode cX5_reverse 74 = .ok (.istore 5, 2) := by decide +kernel
theorem dX5_reverse_76 : decode cX5_reverse 76 = .ok (.iload 5, 2) := by decide +kernel
theorem dX5_reverse_78 : decode cX5_reverse 78 = .ok (.ifCond .ne 10, 3) := by decide +kernel
theorem dX5_reverse_81 : decode cX5_reverse 81 = .ok (.aload_n 0, 1) := by decide +kernel
theorem dX5_reverse_82 : decode cX5_reverse 82 = .ok (.invokevirtual 106, 3) := by decide +kernel
theorem dX5_reverse_85 : decode cX5_reverse 85 = .ok (.ifCond .eq 19, 3) := by decide +kernel
theorem dX5_reverse_88 : decode cX5_reverse 88 = .ok (.aload_n 0, 1) := by decide +kernel
theorem dX5_reverse_89 : decode cX5_reverse 89 = .ok (.getfield 73, 3) := by decide +kernel
theorem dX5_reverse_92 : decode cX5_reverse 92 = .ok (.istore_n 2, 1) := by decide +kernel
theorem dX5_reverse_93 : decode cX5_reverse 93 = .ok (.iload 5, 2) := by decide +kernel
theorem dX5_reverse_95 : decode cX5_reverse 95 = .ok (.ifCond .eq 7, 3) := by decide +kernel
theorem dX5_reverse_98 : decode cX5_reverse 98 = .ok (.iconst 2, 1) := by decide +kernel
theorem dX5_reverse_99 : decode cX5_reverse 99 = .ok (.goto 4, 3) := by decide +kernel
theorem dX5_reverse_102 : decode cX5_reverse 102 = .ok (.iconst 1, 1) := by decide +kernel
theorem dX5_reverse_103 : decode cX5_reverse 103 = .ok (.istore_n 3, 1) := by decide +kernel
theorem dX5_reverse_104 : decode cX5_reverse 104 = .ok (.goto (-70), 3) := by decide +kernel
theorem dX5_reverse_107 : decode cX5_reverse 107 = .ok (.aload_n 0, 1) := by decide +kernel
theorem dX5_reverse_108 : decode cX5_reverse 108 = .ok (.iconst 0, 1) := by decide +kernel
theorem dX5_reverse_109 : decode cX5_reverse 109 = .ok (.putfield 63, 3) := by decide +kernel
theorem dX5_reverse_112 : decode cX5_reverse 112 = .ok (.aload_n 0, 1) := by decide +kernel
theorem dX5_reverse_113 : decode cX5_reverse 113 = .ok (.iload_n 2, 1) := by decide +kernel
theorem dX5_reverse_114 : decode cX5_reverse 114 = .ok (.invokevirtual 120, 3) := by decide +kernel
theorem dX5_reverse_117 : decode cX5_reverse 117 = .ok (.iload_n 3, 1) := by decide +kernel
theorem dX5_reverse_118 : decode cX5_reverse 118 = .ok (.ireturn, 1) := by decide +kernel
theorem dX5_goTo_0 : decode cX5_goTo 0 = .ok (.aload_n 0, 1) := by decide +kernel
theorem dX5_goTo_1 : decode cX5_goTo 1 = .ok (.iload_n 1, 1) := by decide +kernel
theorem dX5_goTo_2 : decode cX5_goTo 2 = .ok (.ifCond .lt 10, 3) := by decide +kernel
theorem dX5_goTo_5 : decode cX5_goTo 5 = .ok (.iload_n 1, 1) := by decide +kernel
theorem dX5_goTo_6 : decode cX5_goTo 6 = .ok (.sipush 2000, 3) := by decide +kernel
theorem dX5_goTo_9 : decode cX5_goTo 9 = .ok (.if_icmp .le 7, 3) := by decide +kernel
theorem dX5_goTo_12 : decode cX5_goTo 12 = .ok (.iconst 1, 1) := by decide +kernel
theorem dX5_goTo_13 : decode cX5_goTo 13 = .ok (.goto 4, 3) := by decide +kernel
theorem dX5_goTo_16 : decode cX5_goTo 16 = .ok (.iconst 0, 1) := by decide +kernel
theorem dX5_goTo_17 : decode cX5_goTo 17 = .ok (.putfield 51, 3) := by decide +kernel
theorem dX5_goTo_20 : decode cX5_goTo 20 = .ok (.aload_n 0, 1) := by decide +kernel
theorem dX5_goTo_21 : decode cX5_goTo 21 = .ok (.getfield 51, 3) := by decide +kernel
theorem dX5_goTo_24 : decode cX5_goTo 24 = .ok (.ifCond .le 5, 3) := by decide +kernel
theorem dX5_goTo_27 : decode cX5_goTo 27 = .ok (.iconst 0, 1) := by decide +kernel
theorem dX5_goTo_28 : decode cX5_goTo 28 = .ok (.ireturn, 1) := by decide +kernel
theorem dX5_goTo_29 : decode cX5_goTo 29 = .ok (.aload_n 0, 1) := by decide +kernel
theorem dX5_goTo_30 : decode cX5_goTo 30 = .ok (.iconst 0, 1) := by decide +kernel
theorem dX5_goTo_31 : decode cX5_goTo 31 = .ok (.putfield 63, 3) := by decide +kernel
theorem dX5_goTo_34 : decode cX5_goTo 34 = .ok (.iload_n 1, 1) := by decide +kernel
theorem dX5_goTo_35 : decode cX5_goTo 35 = .ok (.aload_n 0, 1) := by decide +kernel
theorem dX5_goTo_36 : decode cX5_goTo 36 = .ok (.getfield 73, 3) := by decide +kernel
theorem dX5_goTo_39 : decode cX5_goTo 39 = .ok (.if_icmp .ge 8, 3) := by decide +kernel
theorem dX5_goTo_42 : decode cX5_goTo 42 = .ok (.aload_n 0, 1) := by decide +kernel
theorem dX5_goTo_43 : decode cX5_goTo 43 = .ok (.iload_n 1, 1) := by decide +kernel
theorem dX5_goTo_44 : decode cX5_goTo 44 = .ok (.invokevirtual 120, 3) := by decide +kernel
theorem dX5_goTo_47 : decode cX5_goTo 47 = .ok (.iconst 1, 1) := by decide +kernel
theorem dX5_goTo_48 : decode cX5_goTo 48 = .ok (.istore_n 2, 1) := by decide +kernel
theorem dX5_goTo_49 : decode cX5_goTo 49 = .ok (.iload_n 2, 1) := by decide +kernel
theorem dX5_goTo_50 : decode cX5_goTo 50 = .ok (.ifCond .eq 34, 3) := by decide +kernel
theorem dX5_goTo_53 : decode cX5_goTo 53 = .ok (.aload_n 0, 1) := by decide +kernel
theorem dX5_goTo_54 : decode cX5_goTo 54 = .ok (.getfield 73, 3) := by decide +kernel
theorem dX5_goTo_57 : decode cX5_goTo 57 = .ok (.iload_n 1, 1) := by decide +kernel
theorem dX5_goTo_58 : decode cX5_goTo 58 = .ok (.if_icmp .ge 26, 3) := by decide +kernel
theorem dX5_goTo_61 : decode cX5_goTo 61 = .ok (.aload_n 0, 1) := by decide +kernel
theorem dX5_goTo_62 : decode cX5_goTo 62 = .ok (.getfield 79, 3) := by decide +kernel
theorem dX5_goTo_65 : decode cX5_goTo 65 = .ok (.ifCond .ne 19, 3) := by decide +kernel
theorem dX5_goTo_68 : decode cX5_goTo 68 = .ok (.aload_n 0, 1) := by decide +kernel
theorem dX5_goTo_69 : decode cX5_goTo 69 = .ok (.invokevirtual 99, 3) := by decide +kernel
theorem dX5_goTo_72 : decode cX5_goTo 72 = .ok (.istore_n 2, 1) := by decide +kernel
theorem dX5_goTo_73 : decode cX5_goTo 73 = .ok (.iload_n 2, 1) := by decide +kernel
theorem dX5_goTo_74 : decode cX5_goTo 74 = .ok (.ifCond .eq (-25), 3) := by decide +kernel
theorem dX5_goTo_77 : decode cX5_goTo 77 = .ok (.aload_n 0, 1) := by decide +kernel
theorem dX5_goTo_78 : decode cX5_goTo 78 = .ok (.invokevirtual 103, 3) := by decide +kernel
theorem dX5_goTo_81 : decode cX5_goTo 81 = .ok (.goto (-32), 3) := by decide +kernel
theorem dX5_goTo_84 : decode cX5_goTo 84 = .ok (.aload_n 0, 1) := by decide +kernel
theorem dX5_goTo_85 : decode cX5_goTo 85 = .ok (.getfield 73, 3) := by decide +kernel
theorem dX5_goTo_88 : decode cX5_goTo 88 = .ok (.ireturn, 1) := by decide +kernel
theorem dX5_local_0 : decode cX5_local 0 = .ok (.aload_n 0, 1) := by decide +kernel
theorem dX5_local_1 : decode cX5_local 1 = .ok (.iload_n 1, 1) := by decide +kernel
theorem dX5_local_2 : decode cX5_local 2 = .ok (.ifCond .lt 22, 3) := by decide +kernel
theorem dX5_local_5 : decode cX5_local 5 = .ok (.iload_n 1, 1) := by decide +kernel
theorem dX5_local_6 : decode cX5_local 6 = .ok (.aload_n 0, 1) := by decide +kernel
theorem dX5_local_7 : decode cX5_local 7 = .ok (.getfield 70, 3) := by decide +kernel
theorem dX5_local_10 : decode cX5_local 10 = .ok (.if_icmp .ge 14, 3) := by decide +kernel
theorem dX5_local_13 : decode cX5_local 13 = .ok (.iload_n 2, 1) := by decide +kernel
theorem dX5_local_14 : decode cX5_local 14 = .ok (.invokestatic 85, 3) := by decide +kernel
theorem dX5_local_17 : decode cX5_local 17 = .ok (.ifCond .eq 7, 3) := by decide +kernel
theorem dX5_local_20 : decode cX5_local 20 = .ok (.iconst 0, 1) := by decide +kernel
theorem dX5_local_21 : decode cX5_local 21 = .ok (.goto 4, 3) := by decide +kernel
theorem dX5_local_24 : decode cX5_local 24 = .ok (.iconst 1, 1) := by decide +kernel
theorem dX5_local_25 : decode cX5_local 25 = .ok (.putfield 51, 3) := by decide +kernel
theorem dX5_local_28 : decode cX5_local 28 = .ok (.aload_n 0, 1) := by decide +kernel
theorem dX5_local_29 : decode cX5_local 29 = .ok (.getfield 51, 3) := by decide +kernel
theorem dX5_local_32 : decode cX5_local 32 = .ok (.ifCond .le 7, 3) := by decide +kernel
theorem dX5_local_35 : decode cX5_local 35 = .ok (.iconst 0, 1) := by decide +kernel
theorem dX5_local_36 : decode cX5_local 36 = .ok (.goto 21, 3) := by decide +kernel
theorem dX5_local_39 : decode cX5_local 39 = .ok (.aload_n 0, 1) := by decide +kernel
theorem dX5_local_40 : decode cX5_local 40 = .ok (.getfield 32, 3) := by decide +kernel
theorem dX5_local_43 : decode cX5_local 43 = .ok (.bipush 8, 2) := by decide +kernel
theorem dX5_local_45 : decode cX5_local 45 = .ok (.aload_n 0, 1) := by decide +kernel
theorem dX5_local_46 : decode cX5_local 46 = .ok (.getfield 70, 3) := by decide +kernel
theorem dX5_local_49 : decode cX5_local 49 = .ok (.iconst 1, 1) := by decide +kernel
theorem dX5_local_50 : decode cX5_local 50 = .ok (.isub, 1) := by decide +kernel
theorem dX5_local_51 : decode cX5_local 51 = .ok (.iload_n 1, 1) := by decide +kernel
theorem dX5_local_52 : decode cX5_local 52 = .ok (.isub, 1) := by decide +kernel
theorem dX5_local_53 : decode cX5_local 53 = .ok (.imul, 1) := by decide +kernel
theorem dX5_local_54 : decode cX5_local 54 = .ok (.iload_n 2, 1) := by decide +kernel
theorem dX5_local_55 : decode cX5_local 55 = .ok (.iadd, 1) := by decide +kernel
theorem dX5_local_56 : decode cX5_local 56 = .ok (.iaload, 1) := by decide +kernel
theorem dX5_local_57 : decode cX5_local 57 = .ok (.ireturn, 1) := by decide +kernel
theorem dX5_at_0 : decode cX5_at 0 = .ok (.aload_n 0, 1) := by decide +kernel
theorem dX5_at_1 : decode cX5_at 1 = .ok (.iload_n 1, 1) := by decide +kernel
theorem dX5_at_2 : decode cX5_at 2 = .ok (.ifCond .lt 15, 3) := by decide +kernel
theorem dX5_at_5 : decode cX5_at 5 = .ok (.iload_n 1, 1) := by decide +kernel
theorem dX5_at_6 : decode cX5_at 6 = .ok (.aload_n 0, 1) := by decide +kernel
theorem dX5_at_7 : decode cX5_at 7 = .ok (.getfield 70, 3) := by decide +kernel
theorem dX5_at_10 : decode cX5_at 10 = .ok (.if_icmp .ge 7, 3) := by decide +kernel
theorem dX5_at_13 : decode cX5_at 13 = .ok (.iconst 0, 1) := by decide +kernel
theorem dX5_at_14 : decode cX5_at 14 = .ok (.goto 4, 3) := by decide +kernel
theorem dX5_at_17 : decode cX5_at 17 = .ok (.iconst 1, 1) := by decide +kernel
theorem dX5_at_18 : decode cX5_at 18 = .ok (.putfield 51, 3) := by decide +kernel
theorem dX5_at_21 : decode cX5_at 21 = .ok (.aload_n 0, 1) := by decide +kernel
theorem dX5_at_22 : decode cX5_at 22 = .ok (.getfield 51, 3) := by decide +kernel
theorem dX5_at_25 : decode cX5_at 25 = .ok (.ifCond .le 7, 3) := by decide +kernel
theorem dX5_at_28 : decode cX5_at 28 = .ok (.iconst 0, 1) := by decide +kernel
theorem dX5_at_29 : decode cX5_at 29 = .ok (.goto 16, 3) := by decide +kernel
theorem dX5_at_32 : decode cX5_at 32 = .ok (.aload_n 0, 1) := by decide +kernel
theorem dX5_at_33 : decode cX5_at 33 = .ok (.getfield 35, 3) := by decide +kernel
theorem dX5_at_36 : decode cX5_at 36 = .ok (.aload_n 0, 1) := by decide +kernel
theorem dX5_at_37 : decode cX5_at 37 = .ok (.getfield 70, 3) := by decide +kernel
theorem dX5_at_40 : decode cX5_at 40 = .ok (.iconst 1, 1) := by decide +kernel
theorem dX5_at_41 : decode cX5_at 41 = .ok (.isub, 1) := by decide +kernel
theorem dX5_at_42 : decode cX5_at 42 = .ok (.iload_n 1, 1) := by decide +kernel
theorem dX5_at_43 : decode cX5_at 43 = .ok (.isub, 1) := by decide +kernel
theorem dX5_at_44 : decode cX5_at 44 = .ok (.iaload, 1) := by decide +kernel
theorem dX5_at_45 : decode cX5_at 45 = .ok (.ireturn, 1) := by decide +kernel
theorem dX5_cell_0 : decode cX5_cell 0 = .ok (.aload_n 0, 1) := by decide +kernel
theorem dX5_cell_1 : decode cX5_cell 1 = .ok (.iload_n 1, 1) := by decide +kernel
theorem dX5_cell_2 : decode cX5_cell 2 = .ok (.ifCond .lt 13, 3) := by decide +kernel
theorem dX5_cell_5 : decode cX5_cell 5 = .ok (.iload_n 1, 1) := by decide +kernel
theorem dX5_cell_6 : decode cX5_cell 6 = .ok (.bipush 64, 2) := by decide +kernel
theorem dX5_cell_8 : decode cX5_cell 8 = .ok (.if_icmp .ge 7, 3) := by decide +kernel
theorem dX5_cell_11 : decode cX5_cell 11 = .ok (.iconst 0, 1) := by decide +kernel
theorem dX5_cell_12 : decode cX5_cell 12 = .ok (.goto 4, 3) := by decide +kernel
theorem dX5_cell_15 : decode cX5_cell 15 = .ok (.iconst 1, 1) := by decide +kernel
theorem dX5_cell_16 : decode cX5_cell 16 = .ok (.putfield 51, 3) := by decide +kernel
theorem dX5_cell_19 : decode cX5_cell 19 = .ok (.aload_n 0, 1) := by decide +kernel
theorem dX5_cell_20 : decode cX5_cell 20 = .ok (.getfield 51, 3) := by decide +kernel
theorem dX5_cell_23 : decode cX5_cell 23 = .ok (.ifCond .le 7, 3) := by decide +kernel
theorem dX5_cell_26 : decode cX5_cell 26 = .ok (.iconst 0, 1) := by decide +kernel
theorem dX5_cell_27 : decode cX5_cell 27 = .ok (.goto 9, 3) := by decide +kernel
theorem dX5_cell_30 : decode cX5_cell 30 = .ok (.aload_n 0, 1) := by decide +kernel
theorem dX5_cell_31 : decode cX5_cell 31 = .ok (.getfield 29, 3) := by decide +kernel
theorem dX5_cell_34 : decode cX5_cell 34 = .ok (.iload_n 1, 1) := by decide +kernel
theorem dX5_cell_35 : decode cX5_cell 35 = .ok (.iaload, 1) := by decide +kernel
theorem dX5_cell_36 : decode cX5_cell 36 = .ok (.ireturn, 1) := by decide +kernel
theorem dX5_output_0 : decode cX5_output 0 = .ok (.aload_n 0, 1) := by decide +kernel
theorem dX5_output_1 : decode cX5_output 1 = .ok (.iload_n 1, 1) := by decide +kernel
theorem dX5_output_2 : decode cX5_output 2 = .ok (.ifCond .lt 15, 3) := by decide +kernel
theorem dX5_output_5 : decode cX5_output 5 = .ok (.iload_n 1, 1) := by decide +kernel
theorem dX5_output_6 : decode cX5_output 6 = .ok (.aload_n 0, 1) := by decide +kernel
theorem dX5_output_7 : decode cX5_output 7 = .ok (.getfield 76, 3) := by decide +kernel
theorem dX5_output_10 : decode cX5_output 10 = .ok (.if_icmp .ge 7, 3) := by decide +kernel
theorem dX5_output_13 : decode cX5_output 13 = .ok (.iconst 0, 1) := by decide +kernel
theorem dX5_output_14 : decode cX5_output 14 = .ok (.goto 4, 3) := by decide +kernel
theorem dX5_output_17 : decode cX5_output 17 = .ok (.iconst 1, 1) := by decide +kernel
theorem dX5_output_18 : decode cX5_output 18 = .ok (.putfield 51, 3) := by decide +kernel
theorem dX5_output_21 : decode cX5_output 21 = .ok (.aload_n 0, 1) := by decide +kernel
