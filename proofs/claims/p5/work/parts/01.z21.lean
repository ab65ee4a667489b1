theorem dX5_output_22 : decode cX5_output 22 = .ok (.getfield 51, 3) := by decide +kernel
theorem dX5_output_25 : decode cX5_output 25 = .ok (.ifCond .le 7, 3) := by decide +kernel
theorem dX5_output_28 : decode cX5_output 28 = .ok (.iconst 0, 1) := by decide +kernel
theorem dX5_output_29 : decode cX5_output 29 = .ok (.goto 9, 3) := by decide +kernel
theorem dX5_output_32 : decode cX5_output 32 = .ok (.aload_n 0, 1) := by decide +kernel
theorem dX5_output_33 : decode cX5_output 33 = .ok (.getfield 38, 3) := by decide +kernel
theorem dX5_output_36 : decode cX5_output 36 = .ok (.iload_n 1, 1) := by decide +kernel
theorem dX5_output_37 : decode cX5_output 37 = .ok (.iaload, 1) := by decide +kernel
theorem dX5_output_38 : decode cX5_output 38 = .ok (.ireturn, 1) := by decide +kernel
theorem dX5_kept_0 : decode cX5_kept 0 = .ok (.aload_n 0, 1) := by decide +kernel
theorem dX5_kept_1 : decode cX5_kept 1 = .ok (.iload_n 1, 1) := by decide +kernel
theorem dX5_kept_2 : decode cX5_kept 2 = .ok (.ifCond .lt 15, 3) := by decide +kernel
theorem dX5_kept_5 : decode cX5_kept 5 = .ok (.iload_n 1, 1) := by decide +kernel
theorem dX5_kept_6 : decode cX5_kept 6 = .ok (.aload_n 0, 1) := by decide +kernel
theorem dX5_kept_7 : decode cX5_kept 7 = .ok (.getfield 57, 3) := by decide +kernel
theorem dX5_kept_10 : decode cX5_kept 10 = .ok (.if_icmp .ge 7, 3) := by decide +kernel
theorem dX5_kept_13 : decode cX5_kept 13 = .ok (.iconst 0, 1) := by decide +kernel
theorem dX5_kept_14 : decode cX5_kept 14 = .ok (.goto 4, 3) := by decide +kernel
theorem dX5_kept_17 : decode cX5_kept 17 = .ok (.iconst 1, 1) := by decide +kernel
theorem dX5_kept_18 : decode cX5_kept 18 = .ok (.putfield 51, 3) := by decide +kernel
theorem dX5_kept_21 : decode cX5_kept 21 = .ok (.aload_n 0, 1) := by decide +kernel
theorem dX5_kept_22 : decode cX5_kept 22 = .ok (.getfield 51, 3) := by decide +kernel
theorem dX5_kept_25 : decode cX5_kept 25 = .ok (.ifCond .le 7, 3) := by decide +kernel
theorem dX5_kept_28 : decode cX5_kept 28 = .ok (.iconst 0, 1) := by decide +kernel
theorem dX5_kept_29 : decode cX5_kept 29 = .ok (.goto 9, 3) := by decide +kernel
theorem dX5_kept_32 : decode cX5_kept 32 = .ok (.aload_n 0, 1) := by decide +kernel
theorem dX5_kept_33 : decode cX5_kept 33 = .ok (.getfield 41, 3) := by decide +kernel
theorem dX5_kept_36 : decode cX5_kept 36 = .ok (.iload_n 1, 1) := by decide +kernel
theorem dX5_kept_37 : decode cX5_kept 37 = .ok (.iaload, 1) := by decide +kernel
theorem dX5_kept_38 : decode cX5_kept 38 = .ok (.ireturn, 1) := by decide +kernel
theorem dX5_told_0 : decode cX5_told 0 = .ok (.aload_n 0, 1) := by decide +kernel
theorem dX5_told_1 : decode cX5_told 1 = .ok (.iconst 0, 1) := by decide +kernel
theorem dX5_told_2 : decode cX5_told 2 = .ok (.putfield 51, 3) := by decide +kernel
theorem dX5_told_5 : decode cX5_told 5 = .ok (.iload_n 1, 1) := by decide +kernel
theorem dX5_told_6 : decode cX5_told 6 = .ok (.tableswitch 96 0 6 #[42, 47, 52, 57, 62, 67, 72], 42) := by decide +kernel
theorem dX5_told_48 : decode cX5_told 48 = .ok (.aload_n 0, 1) := by decide +kernel
theorem dX5_told_49 : decode cX5_told 49 = .ok (.getfield 73, 3) := by decide +kernel
theorem dX5_told_52 : decode cX5_told 52 = .ok (.ireturn, 1) := by decide +kernel
theorem dX5_told_53 : decode cX5_told 53 = .ok (.aload_n 0, 1) := by decide +kernel
theorem dX5_told_54 : decode cX5_told 54 = .ok (.getfield 70, 3) := by decide +kernel
theorem dX5_told_57 : decode cX5_told 57 = .ok (.ireturn, 1) := by decide +kernel
theorem dX5_told_58 : decode cX5_told 58 = .ok (.aload_n 0, 1) := by decide +kernel
theorem dX5_told_59 : decode cX5_told 59 = .ok (.getfield 76, 3) := by decide +kernel
theorem dX5_told_62 : decode cX5_told 62 = .ok (.ireturn, 1) := by decide +kernel
theorem dX5_told_63 : decode cX5_told 63 = .ok (.aload_n 0, 1) := by decide +kernel
theorem dX5_told_64 : decode cX5_told 64 = .ok (.getfield 57, 3) := by decide +kernel
theorem dX5_told_67 : decode cX5_told 67 = .ok (.ireturn, 1) := by decide +kernel
theorem dX5_told_68 : decode cX5_told 68 = .ok (.aload_n 0, 1) := by decide +kernel
theorem dX5_told_69 : decode cX5_told 69 = .ok (.getfield 54, 3) := by decide +kernel
theorem dX5_told_72 : decode cX5_told 72 = .ok (.ireturn, 1) := by decide +kernel
theorem dX5_told_73 : decode cX5_told 73 = .ok (.aload_n 0, 1) := by decide +kernel
theorem dX5_told_74 : decode cX5_told 74 = .ok (.getfield 93, 3) := by decide +kernel
theorem dX5_told_77 : decode cX5_told 77 = .ok (.ireturn, 1) := by decide +kernel
theorem dX5_told_78 : decode cX5_told 78 = .ok (.aload_n 0, 1) := by decide +kernel
theorem dX5_told_79 : decode cX5_told 79 = .ok (.getfield 63, 3) := by decide +kernel
theorem dX5_told_82 : decode cX5_told 82 = .ok (.ifCond .eq 7, 3) := by decide +kernel
theorem dX5_told_85 : decode cX5_told 85 = .ok (.iconst 2, 1) := by decide +kernel
theorem dX5_told_86 : decode cX5_told 86 = .ok (.goto 15, 3) := by decide +kernel
theorem dX5_told_89 : decode cX5_told 89 = .ok (.aload_n 0, 1) := by decide +kernel
theorem dX5_told_90 : decode cX5_told 90 = .ok (.getfield 79, 3) := by decide +kernel
theorem dX5_told_93 : decode cX5_told 93 = .ok (.ifCond .eq 7, 3) := by decide +kernel
theorem dX5_told_96 : decode cX5_told 96 = .ok (.iconst 1, 1) := by decide +kernel
theorem dX5_told_97 : decode cX5_told 97 = .ok (.goto 4, 3) := by decide +kernel
theorem dX5_told_100 : decode cX5_told 100 = .ok (.iconst 0, 1) := by decide +kernel
theorem dX5_told_101 : decode cX5_told 101 = .ok (.ireturn, 1) := by decide +kernel
theorem dX5_told_102 : decode cX5_told 102 = .ok (.iconst (-1), 1) := by decide +kernel
theorem dX5_told_103 : decode cX5_told 103 = .ok (.ireturn, 1) := by decide +kernel
theorem dX5_clear_0 : decode cX5_clear 0 = .ok (.aload_n 0, 1) := by decide +kernel
theorem dX5_clear_1 : decode cX5_clear 1 = .ok (.iconst 0, 1) := by decide +kernel
theorem dX5_clear_2 : decode cX5_clear 2 = .ok (.putfield 51, 3) := by decide +kernel
theorem dX5_clear_5 : decode cX5_clear 5 = .ok (.aload_n 0, 1) := by decide +kernel
theorem dX5_clear_6 : decode cX5_clear 6 = .ok (.iconst 0, 1) := by decide +kernel
theorem dX5_clear_7 : decode cX5_clear 7 = .ok (.putfield 93, 3) := by decide +kernel
theorem dX5_clear_10 : decode cX5_clear 10 = .ok (.iconst 0, 1) := by decide +kernel
theorem dX5_clear_11 : decode cX5_clear 11 = .ok (.istore_n 1, 1) := by decide +kernel
theorem dX5_clear_12 : decode cX5_clear 12 = .ok (.iload_n 1, 1) := by decide +kernel
theorem dX5_clear_13 : decode cX5_clear 13 = .ok (.bipush 64, 2) := by decide +kernel
theorem dX5_clear_15 : decode cX5_clear 15 = .ok (.if_icmp .ge 23, 3) := by decide +kernel
theorem dX5_clear_18 : decode cX5_clear 18 = .ok (.aload_n 0, 1) := by decide +kernel
theorem dX5_clear_19 : decode cX5_clear 19 = .ok (.getfield 26, 3) := by decide +kernel
theorem dX5_clear_22 : decode cX5_clear 22 = .ok (.iload_n 1, 1) := by decide +kernel
theorem dX5_clear_23 : decode cX5_clear 23 = .ok (.iconst 0, 1) := by decide +kernel
theorem dX5_clear_24 : decode cX5_clear 24 = .ok (.iastore, 1) := by decide +kernel
theorem dX5_clear_25 : decode cX5_clear 25 = .ok (.aload_n 0, 1) := by decide +kernel
theorem dX5_clear_26 : decode cX5_clear 26 = .ok (.getfield 23, 3) := by decide +kernel
theorem dX5_clear_29 : decode cX5_clear 29 = .ok (.iload_n 1, 1) := by decide +kernel
theorem dX5_clear_30 : decode cX5_clear 30 = .ok (.iconst 0, 1) := by decide +kernel
theorem dX5_clear_31 : decode cX5_clear 31 = .ok (.bastore, 1) := by decide +kernel
theorem dX5_clear_32 : decode cX5_clear 32 = .ok (.iinc 1 1, 3) := by decide +kernel
theorem dX5_clear_35 : decode cX5_clear 35 = .ok (.goto (-23), 3) := by decide +kernel
theorem dX5_clear_38 : decode cX5_clear 38 = .ok (.aload_n 0, 1) := by decide +kernel
theorem dX5_clear_39 : decode cX5_clear 39 = .ok (.invokevirtual 48, 3) := by decide +kernel
theorem dX5_clear_42 : decode cX5_clear 42 = .ok (.return_, 1) := by decide +kernel
theorem dJ9_max_7cf53_0 : decode cJ9_max_7cf53 0 = .ok (.iload_n 0, 1) := by decide +kernel
theorem dJ9_max_7cf53_1 : decode cJ9_max_7cf53 1 = .ok (.iload_n 1, 1) := by decide +kernel
theorem dJ9_max_7cf53_2 : decode cJ9_max_7cf53 2 = .ok (.if_icmp .lt 7, 3) := by decide +kernel
theorem dJ9_max_7cf53_5 : decode cJ9_max_7cf53 5 = .ok (.iload_n 0, 1) := by decide +kernel
theorem dJ9_max_7cf53_6 : decode cJ9_max_7cf53 6 = .ok (.goto 4, 3) := by decide +kernel
theorem dJ9_max_7cf53_9 : decode cJ9_max_7cf53 9 = .ok (.iload_n 1, 1) := by decide +kernel
theorem dJ9_max_7cf53_10 : decode cJ9_max_7cf53 10 = .ok (.ireturn, 1) := by decide +kernel
theorem dJ9_min_7cf53_0 : decode cJ9_min_7cf53 0 = .ok (.iload_n 0, 1) := by decide +kernel
theorem dJ9_min_7cf53_1 : decode cJ9_min_7cf53 1 = .ok (.iload_n 1, 1) := by decide +kernel
theorem dJ9_min_7cf53_2 : decode cJ9_min_7cf53 2 = .ok (.if_icmp .gt 7, 3) := by decide +kernel
theorem dJ9_min_7cf53_5 : decode cJ9_min_7cf53 5 = .ok (.iload_n 0, 1) := by decide +kernel
theorem dJ9_min_7cf53_6 : decode cJ9_min_7cf53 6 = .ok (.goto 4, 3) := by decide +kernel
theorem dJ9_min_7cf53_9 : decode cJ9_min_7cf53 9 = .ok (.iload_n 1, 1) := by decide +kernel
theorem dJ9_min_7cf53_10 : decode cJ9_min_7cf53 10 = .ok (.ireturn, 1) := by decide +kernel
theorem dL_cell_0 : decode cL_cell 0 = .ok (.iload_n 1, 1) := by decide +kernel
theorem dL_cell_1 : decode cL_cell 1 = .ok (.aload_n 0, 1) := by decide +kernel
theorem dL_cell_2 : decode cL_cell 2 = .ok (.arraylength, 1) := by decide +kernel
theorem dL_cell_3 : decode cL_cell 3 = .ok (.if_icmp .ge 9, 3) := by decide +kernel
theorem dL_cell_6 : decode cL_cell 6 = .ok (.aload_n 0, 1) := by decide +kernel
theorem dL_cell_7 : decode cL_cell 7 = .ok (.iload_n 1, 1) := by decide +kernel
theorem dL_cell_8 : decode cL_cell 8 = .ok (.iaload, 1) := by decide +kernel
theorem dL_cell_9 : decode cL_cell 9 = .ok (.goto 4, 3) := by decide +kernel
theorem dL_cell_12 : decode cL_cell 12 = .ok (.iconst 0, 1) := by decide +kernel
theorem dL_cell_13 : decode cL_cell 13 = .ok (.ireturn, 1) := by decide +kernel
theorem dL_line_0 : decode cL_line 0 = .ok (.aload 4, 2) := by decide +kernel
theorem dL_line_2 : decode cL_line 2 = .ok (.iconst 0, 1) := by decide +kernel
theorem dL_line_3 : decode cL_line 3 = .ok (.aload_n 0, 1) := by decide +kernel
theorem dL_line_4 : decode cL_line 4 = .ok (.iload_n 1, 1) := by decide +kernel
theorem dL_line_5 : decode cL_line 5 = .ok (.iload_n 2, 1) := by decide +kernel
theorem dL_line_6 : decode cL_line 6 = .ok (.iload_n 3, 1) := by decide +kernel
theorem dL_line_7 : decode cL_line 7 = .ok (.invokevirtual 7, 3) := by decide +kernel
theorem dL_line_10 : decode cL_line 10 = .ok (.i2l, 1) := by decide +kernel
theorem dL_line_11 : decode cL_line 11 = .ok (.lastore, 1) := by decide +kernel
theorem dL_line_12 : decode cL_line 12 = .ok (.goto 15, 3) := by decide +kernel
theorem dL_line_15 : decode cL_line 15 = .ok (.astore 5, 2) := by decide +kernel
theorem dL_line_17 : decode cL_line 17 = .ok (.iconst 1, 1) := by decide +kernel
theorem dL_line_18 : decode cL_line 18 = .ok (.ireturn, 1) := by decide +kernel
theorem dL_line_19 : decode cL_line 19 = .ok (.astore 5, 2) := by decide +kernel
theorem dL_line_21 : decode cL_line 21 = .ok (.iconst 2, 1) := by decide +kernel
theorem dL_line_22 : decode cL_line 22 = .ok (.ireturn, 1) := by decide +kernel
theorem dL_line_23 : decode cL_line 23 = .ok (.astore 5, 2) := by decide +kernel
theorem dL_line_25 : decode cL_line 25 = .ok (.iconst 3, 1) := by decide +kernel
theorem dL_line_26 : decode cL_line 26 = .ok (.ireturn, 1) := by decide +kernel
theorem dL_line_27 : decode cL_line 27 = .ok (.iconst 0, 1) := by decide +kernel
theorem dL_line_28 : decode cL_line 28 = .ok (.ireturn, 1) := by decide +kernel
theorem dL_poke_0 : decode cL_poke 0 = .ok (.aload_n 3, 1) := by decide +kernel
theorem dL_poke_1 : decode cL_poke 1 = .ok (.iconst 0, 1) := by decide +kernel
theorem dL_poke_2 : decode cL_poke 2 = .ok (.aload_n 0, 1) := by decide +kernel
theorem dL_poke_3 : decode cL_poke 3 = .ok (.iload_n 1, 1) := by decide +kernel
theorem dL_poke_4 : decode cL_poke 4 = .ok (.iload_n 2, 1) := by decide +kernel
theorem dL_poke_5 : decode cL_poke 5 = .ok (.invokevirtual 19, 3) := by decide +kernel
theorem dL_poke_8 : decode cL_poke 8 = .ok (.i2l, 1) := by decide +kernel
theorem dL_poke_9 : decode cL_poke 9 = .ok (.lastore, 1) := by decide +kernel
theorem dL_poke_10 : decode cL_poke 10 = .ok (.goto 11, 3) := by decide +kernel
theorem dL_poke_13 : decode cL_poke 13 = .ok (.astore 4, 2) := by decide +kernel
theorem dL_poke_15 : decode cL_poke 15 = .ok (.iconst 1, 1) := by decide +kernel
theorem dL_poke_16 : decode cL_poke 16 = .ok (.ireturn, 1) := by decide +kernel
theorem dL_poke_17 : decode cL_poke 17 = .ok (.astore 4, 2) := by decide +kernel
theorem dL_poke_19 : decode cL_poke 19 = .ok (.iconst 2, 1) := by decide +kernel
theorem dL_poke_20 : decode cL_poke 20 = .ok (.ireturn, 1) := by decide +kernel
theorem dL_poke_21 : decode cL_poke 21 = .ok (.iconst 0, 1) := by decide +kernel
theorem dL_poke_22 : decode cL_poke 22 = .ok (.ireturn, 1) := by decide +kernel
theorem dL_mark_0 : decode cL_mark 0 = .ok (.aload_n 3, 1) := by decide +kernel
theorem dL_mark_1 : decode cL_mark 1 = .ok (.iconst 0, 1) := by decide +kernel
theorem dL_mark_2 : decode cL_mark 2 = .ok (.aload_n 0, 1) := by decide +kernel
theorem dL_mark_3 : decode cL_mark 3 = .ok (.iload_n 1, 1) := by decide +kernel
theorem dL_mark_4 : decode cL_mark 4 = .ok (.iload_n 2, 1) := by decide +kernel
theorem dL_mark_5 : decode cL_mark 5 = .ok (.invokevirtual 25, 3) := by decide +kernel
theorem dL_mark_8 : decode cL_mark 8 = .ok (.ifCond .eq 7, 3) := by decide +kernel
theorem dL_mark_11 : decode cL_mark 11 = .ok (.lconst 1, 1) := by decide +kernel
theorem dL_mark_12 : decode cL_mark 12 = .ok (.goto 4, 3) := by decide +kernel
theorem dL_mark_15 : decode cL_mark 15 = .ok (.lconst 0, 1) := by decide +kernel
theorem dL_mark_16 : decode cL_mark 16 = .ok (.lastore, 1) := by decide +kernel
theorem dL_mark_17 : decode cL_mark 17 = .ok (.goto 7, 3) := by decide +kernel
theorem dL_mark_20 : decode cL_mark 20 = .ok (.astore 4, 2) := by decide +kernel
theorem dL_mark_22 : decode cL_mark 22 = .ok (.iconst 1, 1) := by decide +kernel
theorem dL_mark_23 : decode cL_mark 23 = .ok (.ireturn, 1) := by decide +kernel
theorem dL_mark_24 : decode cL_mark 24 = .ok (.iconst 0, 1) := by decide +kernel
theorem dL_mark_25 : decode cL_mark 25 = .ok (.ireturn, 1) := by decide +kernel
theorem dL_watch_0 : decode cL_watch 0 = .ok (.aload_n 3, 1) := by decide +kernel
theorem dL_watch_1 : decode cL_watch 1 = .ok (.iconst 0, 1) := by decide +kernel
theorem dL_watch_2 : decode cL_watch 2 = .ok (.aload_n 0, 1) := by decide +kernel
theorem dL_watch_3 : decode cL_watch 3 = .ok (.iload_n 1, 1) := by decide +kernel
theorem dL_watch_4 : decode cL_watch 4 = .ok (.iload_n 2, 1) := by decide +kernel
theorem dL_watch_5 : decode cL_watch 5 = .ok (.invokevirtual 29, 3) := by decide +kernel
theorem dL_watch_8 : decode cL_watch 8 = .ok (.ifCond .eq 7, 3) := by decide +kernel
theorem dL_watch_11 : decode cL_watch 11 = .ok (.lconst 1, 1) := by decide +kernel
theorem dL_watch_12 : decode cL_watch 12 = .ok (.goto 4, 3) := by decide +kernel
theorem dL_watch_15 : decode cL_watch 15 = .ok (.lconst 0, 1) := by decide +kernel
theorem dL_watch_16 : decode cL_watch 16 = .ok (.lastore, 1) := by decide +kernel
theorem dL_watch_17 : decode cL_watch 17 = .ok (.goto 7, 3) := by decide +kernel
theorem dL_watch_20 : decode cL_watch 20 = .ok (.astore 4, 2) := by decide +kernel
theorem dL_watch_22 : decode cL_watch 22 = .ok (.iconst 1, 1) := by decide +kernel
theorem dL_watch_23 : decode cL_watch 23 = .ok (.ireturn, 1) := by decide +kernel
theorem dL_watch_24 : decode cL_watch 24 = .ok (.iconst 0, 1) := by decide +kernel
theorem dL_watch_25 : decode cL_watch 25 = .ok (.ireturn, 1) := by decide +kernel
theorem dL_goTo_0 : decode cL_goTo 0 = .ok (.aload_n 2, 1) := by decide +kernel
theorem dL_goTo_1 : decode cL_goTo 1 = .ok (.iconst 0, 1) := by decide +kernel
theorem dL_goTo_2 : decode cL_goTo 2 = .ok (.aload_n 0, 1) := by decide +kernel
theorem dL_goTo_3 : decode cL_goTo 3 = .ok (.iload_n 1, 1) := by decide +kernel
theorem dL_goTo_4 : decode cL_goTo 4 = .ok (.invokevirtual 32, 3) := by decide +kernel
theorem dL_goTo_7 : decode cL_goTo 7 = .ok (.i2l, 1) := by decide +kernel
theorem dL_goTo_8 : decode cL_goTo 8 = .ok (.lastore, 1) := by decide +kernel
theorem dL_goTo_9 : decode cL_goTo 9 = .ok (.goto 6, 3) := by decide +kernel
theorem dL_goTo_12 : decode cL_goTo 12 = .ok (.astore_n 3, 1) := by decide +kernel
theorem dL_goTo_13 : decode cL_goTo 13 = .ok (.iconst 1, 1) := by decide +kernel
theorem dL_goTo_14 : decode cL_goTo 14 = .ok (.ireturn, 1) := by decide +kernel
theorem dL_goTo_15 : decode cL_goTo 15 = .ok (.iconst 0, 1) := by decide +kernel
theorem dL_goTo_16 : decode cL_goTo 16 = .ok (.ireturn, 1) := by decide +kernel
theorem dL_local_0 : decode cL_local 0 = .ok (.aload_n 3, 1) := by decide +kernel
theorem dL_local_1 : decode cL_local 1 = .ok (.iconst 0, 1) := by decide +kernel
theorem dL_local_2 : decode cL_local 2 = .ok (.aload_n 0, 1) := by decide +kernel
theorem dL_local_3 : decode cL_local 3 = .ok (.iload_n 1, 1) := by decide +kernel
theorem dL_local_4 : decode cL_local 4 = .ok (.iload_n 2, 1) := by decide +kernel
theorem dL_local_5 : decode cL_local 5 = .ok (.invokevirtual 36, 3) := by decide +kernel
theorem dL_local_8 : decode cL_local 8 = .ok (.i2l, 1) := by decide +kernel
theorem dL_local_9 : decode cL_local 9 = .ok (.lastore, 1) := by decide +kernel
theorem dL_local_10 : decode cL_local 10 = .ok (.goto 7, 3) := by decide +kernel
theorem dL_local_13 : decode cL_local 13 = .ok (.astore 4, 2) := by decide +kernel
theorem dL_local_15 : decode cL_local 15 = .ok (.iconst 1, 1) := by decide +kernel
theorem dL_local_16 : decode cL_local 16 = .ok (.ireturn, 1) := by decide +kernel
theorem dL_local_17 : decode cL_local 17 = .ok (.iconst 0, 1) := by decide +kernel
theorem dL_local_18 : decode cL_local 18 = .ok (.ireturn, 1) := by decide +kernel
theorem dL_at_0 : decode cL_at 0 = .ok (.aload_n 2, 1) := by decide +kernel
theorem dL_at_1 : decode cL_at 1 = .ok (.iconst 0, 1) := by decide +kernel
theorem dL_at_2 : decode cL_at 2 = .ok (.aload_n 0, 1) := by decide +kernel
theorem dL_at_3 : decode cL_at 3 = .ok (.iload_n 1, 1) := by decide +kernel
theorem dL_at_4 : decode cL_at 4 = .ok (.invokevirtual 39, 3) := by decide +kernel
theorem dL_at_7 : decode cL_at 7 = .ok (.i2l, 1) := by decide +kernel
theorem dL_at_8 : decode cL_at 8 = .ok (.lastore, 1) := by decide +kernel
theorem dL_at_9 : decode cL_at 9 = .ok (.goto 6, 3) := by decide +kernel
theorem dL_at_12 : decode cL_at 12 = .ok (.astore_n 3, 1) := by decide +kernel
theorem dL_at_13 : decode cL_at 13 = .ok (.iconst 1, 1) := by decide +kernel
theorem dL_at_14 : decode cL_at 14 = .ok (.ireturn, 1) := by decide +kernel
theorem dL_at_15 : decode cL_at 15 = .ok (.iconst 0, 1) := by decide +kernel
theorem dL_at_16 : decode cL_at 16 = .ok (.ireturn, 1) := by decide +kernel
theorem dL_cell__0 : decode cL_cell_ 0 = .ok (.aload_n 2, 1) := by decide +kernel
theorem dL_cell__1 : decode cL_cell_ 1 = .ok (.iconst 0, 1) := by decide +kernel
theorem dL_cell__2 : decode cL_cell_ 2 = .ok (.aload_n 0, 1) := by decide +kernel
theorem dL_cell__3 : decode cL_cell_ 3 = .ok (.iload_n 1, 1) := by decide +kernel
theorem dL_cell__4 : decode cL_cell_ 4 = .ok (.invokevirtual 42, 3) := by decide +kernel
theorem dL_cell__7 : decode cL_cell_ 7 = .ok (.i2l, 1) := by decide +kernel
theorem dL_cell__8 : decode cL_cell_ 8 = .ok (.lastore, 1) := by decide +kernel
theorem dL_cell__9 : decode cL_cell_ 9 = .ok (.goto 6, 3) := by decide +kernel
theorem dL_cell__12 : decode cL_cell_ 12 = .ok (.astore_n 3, 1) := by decide +kernel
theorem dL_cell__13 : decode cL_cell_ 13 = .ok (.iconst 1, 1) := by decide +kernel
theorem dL_cell__14 : decode cL_cell_ 14 = .ok (.ireturn, 1) := by decide +kernel
theorem dL_cell__15 : decode cL_cell_ 15 = .ok (.iconst 0, 1) := by decide +kernel
theorem dL_cell__16 : decode cL_cell_ 16 = .ok (.ireturn, 1) := by decide +kernel
theorem dL_output_0 : decode cL_output 0 = .ok (.aload_n 2, 1) := by decide +kernel
theorem dL_output_1 : decode cL_output 1 = .ok (.iconst 0, 1) := by decide +kernel
theorem dL_output_2 : decode cL_output 2 = .ok (.aload_n 0, 1) := by decide +kernel
theorem dL_output_3 : decode cL_output 3 = .ok (.iload_n 1, 1) := by decide +kernel
theorem dL_output_4 : decode cL_output 4 = .ok (.invokevirtual 45, 3) := by decide +kernel
theorem dL_output_7 : decode cL_output 7 = .ok (.i2l, 1) := by decide +kernel
theorem dL_output_8 : decode cL_output 8 = .ok (.lastore, 1) := by decide +kernel
theorem dL_output_9 : decode cL_output 9 = .ok (.goto 6, 3) := by decide +kernel
theorem dL_output_12 : decode cL_output 12 = .ok (.astore_n 3, 1) := by decide +kernel
theorem dL_output_13 : decode cL_output 13 = .ok (.iconst 1, 1) := by decide +kernel
theorem dL_output_14 : decode cL_output 14 = .ok (.ireturn, 1) := by decide +kernel
theorem dL_output_15 : decode cL_output 15 = .ok (.iconst 0, 1) := by decide +kernel
theorem dL_output_16 : decode cL_output 16 = .ok (.ireturn, 1) := by decide +kernel
theorem dL_kept_0 : decode cL_kept 0 = .ok (.aload_n 2, 1) := by decide +kernel
theorem dL_kept_1 : decode cL_kept 1 = .ok (.iconst 0, 1) := by decide +kernel
theorem dL_kept_2 : decode cL_kept 2 = .ok (.aload_n 0, 1) := by decide +kernel
theorem dL_kept_3 : decode cL_kept 3 = .ok (.iload_n 1, 1) := by decide +kernel
theorem dL_kept_4 : decode cL_kept 4 = .ok (.invokevirtual 48, 3) := by decide +kernel
theorem dL_kept_7 : decode cL_kept 7 = .ok (.i2l, 1) := by decide +kernel
theorem dL_kept_8 : decode cL_kept 8 = .ok (.lastore, 1) := by decide +kernel
theorem dL_kept_9 : decode cL_kept 9 = .ok (.goto 6, 3) := by decide +kernel
theorem dL_kept_12 : decode cL_kept 12 = .ok (.astore_n 3, 1) := by decide +kernel
theorem dL_kept_13 : decode cL_kept 13 = .ok (.iconst 1, 1) := by decide +kernel
theorem dL_kept_14 : decode cL_kept 14 = .ok (.ireturn, 1) := by decide +kernel
theorem dL_kept_15 : decode cL_kept 15 = .ok (.iconst 0, 1) := by decide +kernel
theorem dL_kept_16 : decode cL_kept 16 = .ok (.ireturn, 1) := by decide +kernel
