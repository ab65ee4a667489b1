theorem dX5_init_53 : decode cX5_init 53 = .ok (.bipush 64, 2) := by decide +kernel
theorem dX5_init_55 : decode cX5_init 55 = .ok (.newarray .int, 2) := by decide +kernel
theorem dX5_init_57 : decode cX5_init 57 = .ok (.putfield 29, 3) := by decide +kernel
theorem dX5_init_60 : decode cX5_init 60 = .ok (.aload_n 0, 1) := by decide +kernel
theorem dX5_init_61 : decode cX5_init 61 = .ok (.sipush 128, 3) := by decide +kernel
theorem dX5_init_64 : decode cX5_init 64 = .ok (.newarray .int, 2) := by decide +kernel
theorem dX5_init_66 : decode cX5_init 66 = .ok (.putfield 32, 3) := by decide +kernel
theorem dX5_init_69 : decode cX5_init 69 = .ok (.aload_n 0, 1) := by decide +kernel
theorem dX5_init_70 : decode cX5_init 70 = .ok (.bipush 16, 2) := by decide +kernel
theorem dX5_init_72 : decode cX5_init 72 = .ok (.newarray .int, 2) := by decide +kernel
theorem dX5_init_74 : decode cX5_init 74 = .ok (.putfield 35, 3) := by decide +kernel
theorem dX5_init_77 : decode cX5_init 77 = .ok (.aload_n 0, 1) := by decide +kernel
theorem dX5_init_78 : decode cX5_init 78 = .ok (.sipush 200, 3) := by decide +kernel
theorem dX5_init_81 : decode cX5_init 81 = .ok (.newarray .int, 2) := by decide +kernel
theorem dX5_init_83 : decode cX5_init 83 = .ok (.putfield 38, 3) := by decide +kernel
theorem dX5_init_86 : decode cX5_init 86 = .ok (.aload_n 0, 1) := by decide +kernel
theorem dX5_init_87 : decode cX5_init 87 = .ok (.bipush 8, 2) := by decide +kernel
theorem dX5_init_89 : decode cX5_init 89 = .ok (.newarray .int, 2) := by decide +kernel
theorem dX5_init_91 : decode cX5_init 91 = .ok (.putfield 41, 3) := by decide +kernel
theorem dX5_init_94 : decode cX5_init 94 = .ok (.aload_n 0, 1) := by decide +kernel
theorem dX5_init_95 : decode cX5_init 95 = .ok (.iload_n 1, 1) := by decide +kernel
theorem dX5_init_96 : decode cX5_init 96 = .ok (.iconst 1, 1) := by decide +kernel
theorem dX5_init_97 : decode cX5_init 97 = .ok (.if_icmp .ge 7, 3) := by decide +kernel
theorem dX5_init_100 : decode cX5_init 100 = .ok (.iconst 1, 1) := by decide +kernel
theorem dX5_init_101 : decode cX5_init 101 = .ok (.goto 15, 3) := by decide +kernel
theorem dX5_init_104 : decode cX5_init 104 = .ok (.iload_n 1, 1) := by decide +kernel
theorem dX5_init_105 : decode cX5_init 105 = .ok (.bipush 100, 2) := by decide +kernel
theorem dX5_init_107 : decode cX5_init 107 = .ok (.if_icmp .le 8, 3) := by decide +kernel
theorem dX5_init_110 : decode cX5_init 110 = .ok (.bipush 100, 2) := by decide +kernel
theorem dX5_init_112 : decode cX5_init 112 = .ok (.goto 4, 3) := by decide +kernel
theorem dX5_init_115 : decode cX5_init 115 = .ok (.iload_n 1, 1) := by decide +kernel
theorem dX5_init_116 : decode cX5_init 116 = .ok (.putfield 44, 3) := by decide +kernel
theorem dX5_init_119 : decode cX5_init 119 = .ok (.aload_n 0, 1) := by decide +kernel
theorem dX5_init_120 : decode cX5_init 120 = .ok (.invokevirtual 48, 3) := by decide +kernel
theorem dX5_init_123 : decode cX5_init 123 = .ok (.return_, 1) := by decide +kernel
theorem dX5_thrown_0 : decode cX5_thrown 0 = .ok (.aload_n 0, 1) := by decide +kernel
theorem dX5_thrown_1 : decode cX5_thrown 1 = .ok (.getfield 51, 3) := by decide +kernel
theorem dX5_thrown_4 : decode cX5_thrown 4 = .ok (.ireturn, 1) := by decide +kernel
theorem dX5_anew_0 : decode cX5_anew 0 = .ok (.aload_n 0, 1) := by decide +kernel
theorem dX5_anew_1 : decode cX5_anew 1 = .ok (.aload_n 0, 1) := by decide +kernel
theorem dX5_anew_2 : decode cX5_anew 2 = .ok (.getfield 44, 3) := by decide +kernel
theorem dX5_anew_5 : decode cX5_anew 5 = .ok (.putfield 54, 3) := by decide +kernel
theorem dX5_anew_8 : decode cX5_anew 8 = .ok (.aload_n 0, 1) := by decide +kernel
theorem dX5_anew_9 : decode cX5_anew 9 = .ok (.getfield 41, 3) := by decide +kernel
theorem dX5_anew_12 : decode cX5_anew 12 = .ok (.iconst 0, 1) := by decide +kernel
theorem dX5_anew_13 : decode cX5_anew 13 = .ok (.iconst 0, 1) := by decide +kernel
theorem dX5_anew_14 : decode cX5_anew 14 = .ok (.iastore, 1) := by decide +kernel
theorem dX5_anew_15 : decode cX5_anew 15 = .ok (.aload_n 0, 1) := by decide +kernel
theorem dX5_anew_16 : decode cX5_anew 16 = .ok (.iconst 1, 1) := by decide +kernel
theorem dX5_anew_17 : decode cX5_anew 17 = .ok (.putfield 57, 3) := by decide +kernel
theorem dX5_anew_20 : decode cX5_anew 20 = .ok (.aload_n 0, 1) := by decide +kernel
theorem dX5_anew_21 : decode cX5_anew 21 = .ok (.iconst 0, 1) := by decide +kernel
theorem dX5_anew_22 : decode cX5_anew 22 = .ok (.putfield 60, 3) := by decide +kernel
theorem dX5_anew_25 : decode cX5_anew 25 = .ok (.aload_n 0, 1) := by decide +kernel
theorem dX5_anew_26 : decode cX5_anew 26 = .ok (.iconst 0, 1) := by decide +kernel
theorem dX5_anew_27 : decode cX5_anew 27 = .ok (.putfield 63, 3) := by decide +kernel
theorem dX5_anew_30 : decode cX5_anew 30 = .ok (.aload_n 0, 1) := by decide +kernel
theorem dX5_anew_31 : decode cX5_anew 31 = .ok (.invokevirtual 67, 3) := by decide +kernel
theorem dX5_anew_34 : decode cX5_anew 34 = .ok (.return_, 1) := by decide +kernel
theorem dX5_begin_0 : decode cX5_begin 0 = .ok (.iconst 0, 1) := by decide +kernel
theorem dX5_begin_1 : decode cX5_begin 1 = .ok (.istore_n 1, 1) := by decide +kernel
theorem dX5_begin_2 : decode cX5_begin 2 = .ok (.iload_n 1, 1) := by decide +kernel
theorem dX5_begin_3 : decode cX5_begin 3 = .ok (.bipush 64, 2) := by decide +kernel
theorem dX5_begin_5 : decode cX5_begin 5 = .ok (.if_icmp .ge 21, 3) := by decide +kernel
theorem dX5_begin_8 : decode cX5_begin 8 = .ok (.aload_n 0, 1) := by decide +kernel
theorem dX5_begin_9 : decode cX5_begin 9 = .ok (.getfield 29, 3) := by decide +kernel
theorem dX5_begin_12 : decode cX5_begin 12 = .ok (.iload_n 1, 1) := by decide +kernel
theorem dX5_begin_13 : decode cX5_begin 13 = .ok (.aload_n 0, 1) := by decide +kernel
theorem dX5_begin_14 : decode cX5_begin 14 = .ok (.getfield 26, 3) := by decide +kernel
theorem dX5_begin_17 : decode cX5_begin 17 = .ok (.iload_n 1, 1) := by decide +kernel
theorem dX5_begin_18 : decode cX5_begin 18 = .ok (.iaload, 1) := by decide +kernel
theorem dX5_begin_19 : decode cX5_begin 19 = .ok (.iastore, 1) := by decide +kernel
theorem dX5_begin_20 : decode cX5_begin 20 = .ok (.iinc 1 1, 3) := by decide +kernel
theorem dX5_begin_23 : decode cX5_begin 23 = .ok (.goto (-21), 3) := by decide +kernel
theorem dX5_begin_26 : decode cX5_begin 26 = .ok (.iconst 0, 1) := by decide +kernel
theorem dX5_begin_27 : decode cX5_begin 27 = .ok (.istore_n 1, 1) := by decide +kernel
theorem dX5_begin_28 : decode cX5_begin 28 = .ok (.iload_n 1, 1) := by decide +kernel
theorem dX5_begin_29 : decode cX5_begin 29 = .ok (.sipush 128, 3) := by decide +kernel
theorem dX5_begin_32 : decode cX5_begin 32 = .ok (.if_icmp .ge 16, 3) := by decide +kernel
theorem dX5_begin_35 : decode cX5_begin 35 = .ok (.aload_n 0, 1) := by decide +kernel
theorem dX5_begin_36 : decode cX5_begin 36 = .ok (.getfield 32, 3) := by decide +kernel
theorem dX5_begin_39 : decode cX5_begin 39 = .ok (.iload_n 1, 1) := by decide +kernel
theorem dX5_begin_40 : decode cX5_begin 40 = .ok (.iconst 0, 1) := by decide +kernel
theorem dX5_begin_41 : decode cX5_begin 41 = .ok (.iastore, 1) := by decide +kernel
theorem dX5_begin_42 : decode cX5_begin 42 = .ok (.iinc 1 1, 3) := by decide +kernel
theorem dX5_begin_45 : decode cX5_begin 45 = .ok (.goto (-17), 3) := by decide +kernel
theorem dX5_begin_48 : decode cX5_begin 48 = .ok (.aload_n 0, 1) := by decide +kernel
theorem dX5_begin_49 : decode cX5_begin 49 = .ok (.iconst 1, 1) := by decide +kernel
theorem dX5_begin_50 : decode cX5_begin 50 = .ok (.putfield 70, 3) := by decide +kernel
theorem dX5_begin_53 : decode cX5_begin 53 = .ok (.aload_n 0, 1) := by decide +kernel
theorem dX5_begin_54 : decode cX5_begin 54 = .ok (.getfield 35, 3) := by decide +kernel
theorem dX5_begin_57 : decode cX5_begin 57 = .ok (.iconst 0, 1) := by decide +kernel
theorem dX5_begin_58 : decode cX5_begin 58 = .ok (.iconst 0, 1) := by decide +kernel
theorem dX5_begin_59 : decode cX5_begin 59 = .ok (.iastore, 1) := by decide +kernel
theorem dX5_begin_60 : decode cX5_begin 60 = .ok (.aload_n 0, 1) := by decide +kernel
theorem dX5_begin_61 : decode cX5_begin 61 = .ok (.iconst 0, 1) := by decide +kernel
theorem dX5_begin_62 : decode cX5_begin 62 = .ok (.putfield 73, 3) := by decide +kernel
theorem dX5_begin_65 : decode cX5_begin 65 = .ok (.aload_n 0, 1) := by decide +kernel
theorem dX5_begin_66 : decode cX5_begin 66 = .ok (.iconst 0, 1) := by decide +kernel
theorem dX5_begin_67 : decode cX5_begin 67 = .ok (.putfield 76, 3) := by decide +kernel
theorem dX5_begin_70 : decode cX5_begin 70 = .ok (.aload_n 0, 1) := by decide +kernel
theorem dX5_begin_71 : decode cX5_begin 71 = .ok (.iconst 0, 1) := by decide +kernel
theorem dX5_begin_72 : decode cX5_begin 72 = .ok (.putfield 79, 3) := by decide +kernel
theorem dX5_begin_75 : decode cX5_begin 75 = .ok (.aload_n 0, 1) := by decide +kernel
theorem dX5_begin_76 : decode cX5_begin 76 = .ok (.iconst (-1), 1) := by decide +kernel
theorem dX5_begin_77 : decode cX5_begin 77 = .ok (.putfield 82, 3) := by decide +kernel
theorem dX5_begin_80 : decode cX5_begin 80 = .ok (.return_, 1) := by decide +kernel
theorem dX5_isLocal_0 : decode cX5_isLocal 0 = .ok (.iload_n 0, 1) := by decide +kernel
theorem dX5_isLocal_1 : decode cX5_isLocal 1 = .ok (.ifCond .lt 13, 3) := by decide +kernel
theorem dX5_isLocal_4 : decode cX5_isLocal 4 = .ok (.iload_n 0, 1) := by decide +kernel
theorem dX5_isLocal_5 : decode cX5_isLocal 5 = .ok (.bipush 8, 2) := by decide +kernel
theorem dX5_isLocal_7 : decode cX5_isLocal 7 = .ok (.if_icmp .ge 7, 3) := by decide +kernel
theorem dX5_isLocal_10 : decode cX5_isLocal 10 = .ok (.iconst 1, 1) := by decide +kernel
theorem dX5_isLocal_11 : decode cX5_isLocal 11 = .ok (.goto 4, 3) := by decide +kernel
theorem dX5_isLocal_14 : decode cX5_isLocal 14 = .ok (.iconst 0, 1) := by decide +kernel
theorem dX5_isLocal_15 : decode cX5_isLocal 15 = .ok (.ireturn, 1) := by decide +kernel
theorem dX5_isRight_0 : decode cX5_isRight 0 = .ok (.iload_n 0, 1) := by decide +kernel
theorem dX5_isRight_1 : decode cX5_isRight 1 = .ok (.tableswitch 104 0 11 #[63, 68, 68, 68, 68, 68, 68, 104, 63, 88, 63, 63], 63) := by decide +kernel
theorem dX5_isRight_64 : decode cX5_isRight 64 = .ok (.iload_n 1, 1) := by decide +kernel
theorem dX5_isRight_65 : decode cX5_isRight 65 = .ok (.invokestatic 85, 3) := by decide +kernel
theorem dX5_isRight_68 : decode cX5_isRight 68 = .ok (.ireturn, 1) := by decide +kernel
theorem dX5_isRight_69 : decode cX5_isRight 69 = .ok (.iload_n 1, 1) := by decide +kernel
theorem dX5_isRight_70 : decode cX5_isRight 70 = .ok (.invokestatic 85, 3) := by decide +kernel
theorem dX5_isRight_73 : decode cX5_isRight 73 = .ok (.ifCond .eq 14, 3) := by decide +kernel
theorem dX5_isRight_76 : decode cX5_isRight 76 = .ok (.iload_n 2, 1) := by decide +kernel
theorem dX5_isRight_77 : decode cX5_isRight 77 = .ok (.invokestatic 85, 3) := by decide +kernel
theorem dX5_isRight_80 : decode cX5_isRight 80 = .ok (.ifCond .eq 7, 3) := by decide +kernel
theorem dX5_isRight_83 : decode cX5_isRight 83 = .ok (.iconst 1, 1) := by decide +kernel
theorem dX5_isRight_84 : decode cX5_isRight 84 = .ok (.goto 4, 3) := by decide +kernel
theorem dX5_isRight_87 : decode cX5_isRight 87 = .ok (.iconst 0, 1) := by decide +kernel
theorem dX5_isRight_88 : decode cX5_isRight 88 = .ok (.ireturn, 1) := by decide +kernel
theorem dX5_isRight_89 : decode cX5_isRight 89 = .ok (.iload_n 2, 1) := by decide +kernel
theorem dX5_isRight_90 : decode cX5_isRight 90 = .ok (.ifCond .lt 13, 3) := by decide +kernel
theorem dX5_isRight_93 : decode cX5_isRight 93 = .ok (.iload_n 2, 1) := by decide +kernel
theorem dX5_isRight_94 : decode cX5_isRight 94 = .ok (.bipush 8, 2) := by decide +kernel
theorem dX5_isRight_96 : decode cX5_isRight 96 = .ok (.if_icmp .gt 7, 3) := by decide +kernel
theorem dX5_isRight_99 : decode cX5_isRight 99 = .ok (.iconst 1, 1) := by decide +kernel
theorem dX5_isRight_100 : decode cX5_isRight 100 = .ok (.goto 4, 3) := by decide +kernel
theorem dX5_isRight_103 : decode cX5_isRight 103 = .ok (.iconst 0, 1) := by decide +kernel
theorem dX5_isRight_104 : decode cX5_isRight 104 = .ok (.ireturn, 1) := by decide +kernel
theorem dX5_isRight_105 : decode cX5_isRight 105 = .ok (.iload_n 0, 1) := by decide +kernel
theorem dX5_isRight_106 : decode cX5_isRight 106 = .ok (.bipush 7, 2) := by decide +kernel
theorem dX5_isRight_108 : decode cX5_isRight 108 = .ok (.if_icmp .eq 9, 3) := by decide +kernel
theorem dX5_isRight_111 : decode cX5_isRight 111 = .ok (.iload_n 0, 1) := by decide +kernel
theorem dX5_isRight_112 : decode cX5_isRight 112 = .ok (.bipush 12, 2) := by decide +kernel
theorem dX5_isRight_114 : decode cX5_isRight 114 = .ok (.if_icmp .ne 7, 3) := by decide +kernel
theorem dX5_isRight_117 : decode cX5_isRight 117 = .ok (.iconst 1, 1) := by decide +kernel
theorem dX5_isRight_118 : decode cX5_isRight 118 = .ok (.goto 4, 3) := by decide +kernel
theorem dX5_isRight_121 : decode cX5_isRight 121 = .ok (.iconst 0, 1) := by decide +kernel
theorem dX5_isRight_122 : decode cX5_isRight 122 = .ok (.ireturn, 1) := by decide +kernel
theorem dX5_line_0 : decode cX5_line 0 = .ok (.aload_n 0, 1) := by decide +kernel
theorem dX5_line_1 : decode cX5_line 1 = .ok (.iload_n 1, 1) := by decide +kernel
theorem dX5_line_2 : decode cX5_line 2 = .ok (.iload_n 2, 1) := by decide +kernel
theorem dX5_line_3 : decode cX5_line 3 = .ok (.iload_n 3, 1) := by decide +kernel
theorem dX5_line_4 : decode cX5_line 4 = .ok (.invokestatic 89, 3) := by decide +kernel
theorem dX5_line_7 : decode cX5_line 7 = .ok (.ifCond .ne 7, 3) := by decide +kernel
theorem dX5_line_10 : decode cX5_line 10 = .ok (.iconst 1, 1) := by decide +kernel
theorem dX5_line_11 : decode cX5_line 11 = .ok (.goto 28, 3) := by decide +kernel
theorem dX5_line_14 : decode cX5_line 14 = .ok (.aload_n 0, 1) := by decide +kernel
theorem dX5_line_15 : decode cX5_line 15 = .ok (.getfield 73, 3) := by decide +kernel
theorem dX5_line_18 : decode cX5_line 18 = .ok (.ifCond .eq 7, 3) := by decide +kernel
theorem dX5_line_21 : decode cX5_line 21 = .ok (.iconst 2, 1) := by decide +kernel
theorem dX5_line_22 : decode cX5_line 22 = .ok (.goto 17, 3) := by decide +kernel
theorem dX5_line_25 : decode cX5_line 25 = .ok (.aload_n 0, 1) := by decide +kernel
theorem dX5_line_26 : decode cX5_line 26 = .ok (.getfield 93, 3) := by decide +kernel
theorem dX5_line_29 : decode cX5_line 29 = .ok (.bipush 80, 2) := by decide +kernel
theorem dX5_line_31 : decode cX5_line 31 = .ok (.if_icmp .ne 7, 3) := by decide +kernel
theorem dX5_line_34 : decode cX5_line 34 = .ok (.iconst 3, 1) := by decide +kernel
theorem dX5_line_35 : decode cX5_line 35 = .ok (.goto 4, 3) := by decide +kernel
theorem dX5_line_38 : decode cX5_line 38 = .ok (.iconst 0, 1) := by decide +kernel
theorem dX5_line_39 : decode cX5_line 39 = .ok (.putfield 51, 3) := by decide +kernel
theorem dX5_line_42 : decode cX5_line 42 = .ok (.aload_n 0, 1) := by decide +kernel
theorem dX5_line_43 : decode cX5_line 43 = .ok (.getfield 51, 3) := by decide +kernel
theorem dX5_line_46 : decode cX5_line 46 = .ok (.ifCond .le 5, 3) := by decide +kernel
theorem dX5_line_49 : decode cX5_line 49 = .ok (.iconst 0, 1) := by decide +kernel
theorem dX5_line_50 : decode cX5_line 50 = .ok (.ireturn, 1) := by decide +kernel
theorem dX5_line_51 : decode cX5_line 51 = .ok (.aload_n 0, 1) := by decide +kernel
theorem dX5_line_52 : decode cX5_line 52 = .ok (.getfield 7, 3) := by decide +kernel
theorem dX5_line_55 : decode cX5_line 55 = .ok (.aload_n 0, 1) := by decide +kernel
theorem dX5_line_56 : decode cX5_line 56 = .ok (.getfield 93, 3) := by decide +kernel
theorem dX5_line_59 : decode cX5_line 59 = .ok (.iload_n 1, 1) := by decide +kernel
theorem dX5_line_60 : decode cX5_line 60 = .ok (.iastore, 1) := by decide +kernel
theorem dX5_line_61 : decode cX5_line 61 = .ok (.aload_n 0, 1) := by decide +kernel
theorem dX5_line_62 : decode cX5_line 62 = .ok (.getfield 13, 3) := by decide +kernel
theorem dX5_line_65 : decode cX5_line 65 = .ok (.aload_n 0, 1) := by decide +kernel
theorem dX5_line_66 : decode cX5_line 66 = .ok (.getfield 93, 3) := by decide +kernel
theorem dX5_line_69 : decode cX5_line 69 = .ok (.iload_n 2, 1) := by decide +kernel
theorem dX5_line_70 : decode cX5_line 70 = .ok (.iastore, 1) := by decide +kernel
theorem dX5_line_71 : decode cX5_line 71 = .ok (.aload_n 0, 1) := by decide +kernel
theorem dX5_line_72 : decode cX5_line 72 = .ok (.getfield 16, 3) := by decide +kernel
theorem dX5_line_75 : decode cX5_line 75 = .ok (.aload_n 0, 1) := by decide +kernel
theorem dX5_line_76 : decode cX5_line 76 = .ok (.getfield 93, 3) := by decide +kernel
theorem dX5_line_79 : decode cX5_line 79 = .ok (.iload_n 3, 1) := by decide +kernel
theorem dX5_line_80 : decode cX5_line 80 = .ok (.iastore, 1) := by decide +kernel
theorem dX5_line_81 : decode cX5_line 81 = .ok (.aload_n 0, 1) := by decide +kernel
theorem dX5_line_82 : decode cX5_line 82 = .ok (.getfield 19, 3) := by decide +kernel
theorem dX5_line_85 : decode cX5_line 85 = .ok (.aload_n 0, 1) := by decide +kernel
theorem dX5_line_86 : decode cX5_line 86 = .ok (.getfield 93, 3) := by decide +kernel
theorem dX5_line_89 : decode cX5_line 89 = .ok (.iconst 0, 1) := by decide +kernel
theorem dX5_line_90 : decode cX5_line 90 = .ok (.bastore, 1) := by decide +kernel
theorem dX5_line_91 : decode cX5_line 91 = .ok (.aload_n 0, 1) := by decide +kernel
theorem dX5_line_92 : decode cX5_line 92 = .ok (.dup, 1) := by decide +kernel
theorem dX5_line_93 : decode cX5_line 93 = .ok (.getfield 93, 3) := by decide +kernel
theorem dX5_line_96 : decode cX5_line 96 = .ok (.iconst 1, 1) := by decide +kernel
theorem dX5_line_97 : decode cX5_line 97 = .ok (.iadd, 1) := by decide +kernel
theorem dX5_line_98 : decode cX5_line 98 = .ok (.putfield 93, 3) := by decide +kernel
theorem dX5_line_101 : decode cX5_line 101 = .ok (.aload_n 0, 1) := by decide +kernel
theorem dX5_line_102 : decode cX5_line 102 = .ok (.invokevirtual 48, 3) := by decide +kernel
theorem dX5_line_105 : decode cX5_line 105 = .ok (.aload_n 0, 1) := by decide +kernel
theorem dX5_line_106 : decode cX5_line 106 = .ok (.getfield 93, 3) := by decide +kernel
theorem dX5_line_109 : decode cX5_line 109 = .ok (.iconst 1, 1) := by decide +kernel
theorem dX5_line_110 : decode cX5_line 110 = .ok (.isub, 1) := by decide +kernel
theorem dX5_line_111 : decode cX5_line 111 = .ok (.ireturn, 1) := by decide +kernel
theorem dX5_poke_0 : decode cX5_poke 0 = .ok (.aload_n 0, 1) := by decide +kernel
theorem dX5_poke_1 : decode cX5_poke 1 = .ok (.iload_n 1, 1) := by decide +kernel
theorem dX5_poke_2 : decode cX5_poke 2 = .ok (.ifCond .lt 9, 3) := by decide +kernel
theorem dX5_poke_5 : decode cX5_poke 5 = .ok (.iload_n 1, 1) := by decide +kernel
theorem dX5_poke_6 : decode cX5_poke 6 = .ok (.bipush 63, 2) := by decide +kernel
theorem dX5_poke_8 : decode cX5_poke 8 = .ok (.if_icmp .le 7, 3) := by decide +kernel
theorem dX5_poke_11 : decode cX5_poke 11 = .ok (.iconst 1, 1) := by decide +kernel
theorem dX5_poke_12 : decode cX5_poke 12 = .ok (.goto 15, 3) := by decide +kernel
theorem dX5_poke_15 : decode cX5_poke 15 = .ok (.aload_n 0, 1) := by decide +kernel
theorem dX5_poke_16 : decode cX5_poke 16 = .ok (.getfield 73, 3) := by decide +kernel
theorem dX5_poke_19 : decode cX5_poke 19 = .ok (.ifCond .eq 7, 3) := by decide +kernel
theorem dX5_poke_22 : decode cX5_poke 22 = .ok (.iconst 2, 1) := by decide +kernel
theorem dX5_poke_23 : decode cX5_poke 23 = .ok (.goto 4, 3) := by decide +kernel
theorem dX5_poke_26 : decode cX5_poke 26 = .ok (.iconst 0, 1) := by decide +kernel
theorem dX5_poke_27 : decode cX5_poke 27 = .ok (.putfield 51, 3) := by decide +kernel
theorem dX5_poke_30 : decode cX5_poke 30 = .ok (.aload_n 0, 1) := by decide +kernel
theorem dX5_poke_31 : decode cX5_poke 31 = .ok (.getfield 51, 3) := by decide +kernel
theorem dX5_poke_34 : decode cX5_poke 34 = .ok (.ifCond .le 5, 3) := by decide +kernel
theorem dX5_poke_37 : decode cX5_poke 37 = .ok (.iconst 0, 1) := by decide +kernel
theorem dX5_poke_38 : decode cX5_poke 38 = .ok (.ireturn, 1) := by decide +kernel
theorem dX5_poke_39 : decode cX5_poke 39 = .ok (.aload_n 0, 1) := by decide +kernel
theorem dX5_poke_40 : decode cX5_poke 40 = .ok (.getfield 26, 3) := by decide +kernel
theorem dX5_poke_43 : decode cX5_poke 43 = .ok (.iload_n 1, 1) := by decide +kernel
theorem dX5_poke_44 : decode cX5_poke 44 = .ok (.iaload, 1) := by decide +kernel
theorem dX5_poke_45 : decode cX5_poke 45 = .ok (.istore_n 3, 1) := by decide +kernel
theorem dX5_poke_46 : decode cX5_poke 46 = .ok (.aload_n 0, 1) := by decide +kernel
theorem dX5_poke_47 : decode cX5_poke 47 = .ok (.getfield 26, 3) := by decide +kernel
theorem dX5_poke_50 : decode cX5_poke 50 = .ok (.iload_n 1, 1) := by decide +kernel
theorem dX5_poke_51 : decode cX5_poke 51 = .ok (.iload_n 2, 1) := by decide +kernel
theorem dX5_poke_52 : decode cX5_poke 52 = .ok (.iastore, 1) := by decide +kernel
theorem dX5_poke_53 : decode cX5_poke 53 = .ok (.aload_n 0, 1) := by decide +kernel
theorem dX5_poke_54 : decode cX5_poke 54 = .ok (.invokevirtual 48, 3) := by decide +kernel
theorem dX5_poke_57 : decode cX5_poke 57 = .ok (.iload_n 3, 1) := by decide +kernel
theorem dX5_poke_58 : decode cX5_poke 58 = .ok (.ireturn, 1) := by decide +kernel
theorem dX5_mark_0 : decode cX5_mark 0 = .ok (.aload_n 0, 1) := by decide +kernel
theorem dX5_mark_1 : decode cX5_mark 1 = .ok (.iload_n 1, 1) := by decide +kernel
theorem dX5_mark_2 : decode cX5_mark 2 = .ok (.ifCond .lt 15, 3) := by decide +kernel
theorem dX5_mark_5 : decode cX5_mark 5 = .ok (.iload_n 1, 1) := by decide +kernel
theorem dX5_mark_6 : decode cX5_mark 6 = .ok (.aload_n 0, 1) := by decide +kernel
theorem dX5_mark_7 : decode cX5_mark 7 = .ok (.getfield 93, 3) := by decide +kernel
theorem dX5_mark_10 : decode cX5_mark 10 = .ok (.if_icmp .ge 7, 3) := by decide +kernel
theorem dX5_mark_13 : decode cX5_mark 13 = .ok (.iconst 0, 1) := by decide +kernel
theorem dX5_mark_14 : decode cX5_mark 14 = .ok (.goto 4, 3) := by decide +kernel
theorem dX5_mark_17 : decode cX5_mark 17 = .ok (.iconst 1, 1) := by decide +kernel
theorem dX5_mark_18 : decode cX5_mark 18 = .ok (.putfield 51, 3) := by decide +kernel
theorem dX5_mark_21 : decode cX5_mark 21 = .ok (.aload_n 0, 1) := by decide +kernel
theorem dX5_mark_22 : decode cX5_mark 22 = .ok (.getfield 51, 3) := by decide +kernel
theorem dX5_mark_25 : decode cX5_mark 25 = .ok (.ifCond .le 5, 3) := by decide +kernel
theorem dX5_mark_28 : decode cX5_mark 28 = .ok (.iconst 0, 1) := by decide +kernel
theorem dX5_mark_29 : decode cX5_mark 29 = .ok (.ireturn, 1) := by decide +kernel
theorem dX5_mark_30 : decode cX5_mark 30 = .ok (.aload_n 0, 1) := by decide +kernel
theorem dX5_mark_31 : decode cX5_mark 31 = .ok (.getfield 19, 3) := by decide +kernel
theorem dX5_mark_34 : decode cX5_mark 34 = .ok (.iload_n 1, 1) := by decide +kernel
theorem dX5_mark_35 : decode cX5_mark 35 = .ok (.baload, 1) := by decide +kernel
theorem dX5_mark_36 : decode cX5_mark 36 = .ok (.iload_n 2, 1) := by decide +kernel
theorem dX5_mark_37 : decode cX5_mark 37 = .ok (.if_icmp .eq 7, 3) := by decide +kernel
theorem dX5_mark_40 : decode cX5_mark 40 = .ok (.iconst 1, 1) := by decide +kernel
theorem dX5_mark_41 : decode cX5_mark 41 = .ok (.goto 4, 3) := by decide +kernel
theorem dX5_mark_44 : decode cX5_mark 44 = .ok (.iconst 0, 1) := by decide +kernel
theorem dX5_mark_45 : decode cX5_mark 45 = .ok (.istore_n 3, 1) := by decide +kernel
theorem dX5_mark_46 : decode cX5_mark 46 = .ok (.aload_n 0, 1) := by decide +kernel
theorem dX5_mark_47 : decode cX5_mark 47 = .ok (.getfield 19, 3) := by decide +kernel
theorem dX5_mark_50 : decode cX5_mark 50 = .ok (.iload_n 1, 1) := by decide +kernel
theorem dX5_mark_51 : decode cX5_mark 51 = .ok (.iload_n 2, 1) := by decide +kernel
theorem dX5_mark_52 : decode cX5_mark 52 = .ok (.bastore, 1) := by decide +kernel
theorem dX5_mark_53 : decode cX5_mark 53 = .ok (.iload_n 3, 1) := by decide +kernel
theorem dX5_mark_54 : decode cX5_mark 54 = .ok (.ireturn, 1) := by decide +kernel
theorem dX5_watch_0 : decode cX5_watch 0 = .ok (.aload_n 0, 1) := by decide +kernel
theorem dX5_watch_1 : decode cX5_watch 1 = .ok (.iload_n 1, 1) := by decide +kernel
theorem dX5_watch_2 : decode cX5_watch 2 = .ok (.ifCond .lt 13, 3) := by decide +kernel
theorem dX5_watch_5 : decode cX5_watch 5 = .ok (.iload_n 1, 1) := by decide +kernel
theorem dX5_watch_6 : decode cX5_watch 6 = .ok (.bipush 64, 2) := by decide +kernel
theorem dX5_watch_8 : decode cX5_watch 8 = .ok (.if_icmp .ge 7, 3) := by decide +kernel
theorem dX5_watch_11 : decode cX5_watch 11 = .ok (.iconst 0, 1) := by decide +kernel
theorem dX5_watch_12 : decode cX5_watch 12 = .ok (.goto 4, 3) := by decide +kernel
theorem dX5_watch_15 : decode cX5_watch 15 = .ok (.iconst 1, 1) := by decide +kernel
theorem dX5_watch_16 : decode cX5_watch 16 = .ok (.putfield 51, 3) := by decide +kernel
theorem dX5_watch_19 : decode cX5_watch 19 = .ok (.aload_n 0, 1) := by decide +kernel
theorem dX5_watch_20 : decode cX5_watch 20 = .ok (.getfield 51, 3) := by decide +kernel
theorem dX5_watch_23 : decode cX5_watch 23 = .ok (.ifCond .le 5, 3) := by decide +kernel
theorem dX5_watch_26 : decode cX5_watch 26 = .ok (.iconst 0, 1) := by decide +kernel
theorem dX5_watch_27 : decode cX5_watch 27 = .ok (.ireturn, 1) := by decide +kernel
theorem dX5_watch_28 : decode cX5_watch 28 = .ok (.aload_n 0, 1) := by decide +kernel
theorem dX5_watch_29 : decode cX5_watch 29 = .ok (.getfield 23, 3) := by decide +kernel
theorem dX5_watch_32 : decode cX5_watch 32 = .ok (.iload_n 1, 1) := by decide +kernel
theorem dX5_watch_33 : decode cX5_watch 33 = .ok (.baload, 1) := by decide +kernel
theorem dX5_watch_34 : decode cX5_watch 34 = .ok (.iload_n 2, 1) := by decide +kernel
theorem dX5_watch_35 : decode cX5_watch 35 = .ok (.if_icmp .eq 7, 3) := by decide +kernel
theorem dX5_watch_38 : decode cX5_watch 38 = .ok (.iconst 1, 1) := by decide +kernel
theorem dX5_watch_39 : decode cX5_watch 39 = .ok (.goto 4, 3) := by decide +kernel
theorem dX5_watch_42 : decode cX5_watch 42 = .ok (.iconst 0, 1) := by decide +kernel
theorem dX5_watch_43 : decode cX5_watch 43 = .ok (.istore_n 3, 1) := by decide +kernel
theorem dX5_watch_44 : decode cX5_watch 44 = .ok (.aload_n 0, 1) := by decide +kernel
theorem dX5_watch_45 : decode cX5_watch 45 = .ok (.getfield 23, 3) := by decide +kernel
theorem dX5_watch_48 : decode cX5_watch 48 = .ok (.iload_n 1, 1) := by decide +kernel
theorem dX5_watch_49 : decode cX5_watch 49 = .ok (.iload_n 2, 1) := by decide +kernel
theorem dX5_watch_50 : decode cX5_watch 50 = .ok (.bastore, 1) := by decide +kernel
theorem dX5_watch_51 : decode cX5_watch 51 = .ok (.iload_n 3, 1) := by decide +kernel
theorem dX5_watch_52 : decode cX5_watch 52 = .ok (.ireturn, 1) := by decide +kernel
theorem dX5_canDo_0 : decode cX5_canDo 0 = .ok (.iload_n 1, 1) := by decide +kernel
theorem dX5_canDo_1 : decode cX5_canDo 1 = .ok (.ifCond .lt 11, 3) := by decide +kernel
theorem dX5_canDo_4 : decode cX5_canDo 4 = .ok (.iload_n 1, 1) := by decide +kernel
theorem dX5_canDo_5 : decode cX5_canDo 5 = .ok (.aload_n 0, 1) := by decide +kernel
theorem dX5_canDo_6 : decode cX5_canDo 6 = .ok (.getfield 93, 3) := by decide +kernel
theorem dX5_canDo_9 : decode cX5_canDo 9 = .ok (.if_icmp .lt 5, 3) := by decide +kernel
theorem dX5_canDo_12 : decode cX5_canDo 12 = .ok (.iconst 0, 1) := by decide +kernel
theorem dX5_canDo_13 : decode cX5_canDo 13 = .ok (.ireturn, 1) := by decide +kernel
theorem dX5_canDo_14 : decode cX5_canDo 14 = .ok (.bipush 8, 2) := by decide +kernel
theorem dX5_canDo_16 : decode cX5_canDo 16 = .ok (.aload_n 0, 1) := by decide +kernel
theorem dX5_canDo_17 : decode cX5_canDo 17 = .ok (.getfield 70, 3) := by decide +kernel
theorem dX5_canDo_20 : decode cX5_canDo 20 = .ok (.iconst 1, 1) := by decide +kernel
theorem dX5_isDone_0 : decode cX5_isDone 0 = .ok (.aload_n 0, 1) := by decide +kernel
theorem dX5_isDone_1 : decode cX5_isDone 1 = .ok (.getfield 35, 3) := by decide +kernel
theorem dX5_isDone_4 : decode cX5_isDone 4 = .ok (.aload_n 0, 1) := by decide +kernel
theorem dX5_isDone_5 : decode cX5_isDone 5 = .ok (.getfield 70, 3) := by decide +kernel
theorem dX5_isDone_8 : decode cX5_isDone 8 = .ok (.iconst 1, 1) := by decide +kernel
theorem dX5_isDone_9 : decode cX5_isDone 9 = .ok (.isub, 1) := by decide +kernel
