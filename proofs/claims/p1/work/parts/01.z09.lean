theorem dX3_reset_88 : decode cX3_reset 88 = .ok (.iconst 0, 1) := by decide +kernel
theorem dX3_reset_89 : decode cX3_reset 89 = .ok (.putfield 31, 3) := by decide +kernel
theorem dX3_reset_92 : decode cX3_reset 92 = .ok (.return_, 1) := by decide +kernel
theorem dX3_copyFrom_0 : decode cX3_copyFrom 0 = .ok (.aload_n 1, 1) := by decide +kernel
theorem dX3_copyFrom_1 : decode cX3_copyFrom 1 = .ok (.getfield 9, 3) := by decide +kernel
theorem dX3_copyFrom_4 : decode cX3_copyFrom 4 = .ok (.iconst 0, 1) := by decide +kernel
theorem dX3_copyFrom_5 : decode cX3_copyFrom 5 = .ok (.aload_n 0, 1) := by decide +kernel
theorem dX3_copyFrom_6 : decode cX3_copyFrom 6 = .ok (.getfield 9, 3) := by decide +kernel
theorem dX3_copyFrom_9 : decode cX3_copyFrom 9 = .ok (.iconst 0, 1) := by decide +kernel
theorem dX3_copyFrom_10 : decode cX3_copyFrom 10 = .ok (.aload_n 0, 1) := by decide +kernel
theorem dX3_copyFrom_11 : decode cX3_copyFrom 11 = .ok (.getfield 9, 3) := by decide +kernel
theorem dX3_copyFrom_14 : decode cX3_copyFrom 14 = .ok (.arraylength, 1) := by decide +kernel
theorem dX3_copyFrom_15 : decode cX3_copyFrom 15 = .ok (.invokestatic 35, 3) := by decide +kernel
theorem dX3_copyFrom_18 : decode cX3_copyFrom 18 = .ok (.aload_n 1, 1) := by decide +kernel
theorem dX3_copyFrom_19 : decode cX3_copyFrom 19 = .ok (.getfield 15, 3) := by decide +kernel
theorem dX3_copyFrom_22 : decode cX3_copyFrom 22 = .ok (.iconst 0, 1) := by decide +kernel
theorem dX3_copyFrom_23 : decode cX3_copyFrom 23 = .ok (.aload_n 0, 1) := by decide +kernel
theorem dX3_copyFrom_24 : decode cX3_copyFrom 24 = .ok (.getfield 15, 3) := by decide +kernel
theorem dX3_copyFrom_27 : decode cX3_copyFrom 27 = .ok (.iconst 0, 1) := by decide +kernel
theorem dX3_copyFrom_28 : decode cX3_copyFrom 28 = .ok (.aload_n 0, 1) := by decide +kernel
theorem dX3_copyFrom_29 : decode cX3_copyFrom 29 = .ok (.getfield 15, 3) := by decide +kernel
theorem dX3_copyFrom_32 : decode cX3_copyFrom 32 = .ok (.arraylength, 1) := by decide +kernel
theorem dX3_copyFrom_33 : decode cX3_copyFrom 33 = .ok (.invokestatic 35, 3) := by decide +kernel
theorem dX3_copyFrom_36 : decode cX3_copyFrom 36 = .ok (.aload_n 1, 1) := by decide +kernel
theorem dX3_copyFrom_37 : decode cX3_copyFrom 37 = .ok (.getfield 18, 3) := by decide +kernel
theorem dX3_copyFrom_40 : decode cX3_copyFrom 40 = .ok (.iconst 0, 1) := by decide +kernel
theorem dX3_copyFrom_41 : decode cX3_copyFrom 41 = .ok (.aload_n 0, 1) := by decide +kernel
theorem dX3_copyFrom_42 : decode cX3_copyFrom 42 = .ok (.getfield 18, 3) := by decide +kernel
theorem dX3_copyFrom_45 : decode cX3_copyFrom 45 = .ok (.iconst 0, 1) := by decide +kernel
theorem dX3_copyFrom_46 : decode cX3_copyFrom 46 = .ok (.aload_n 0, 1) := by decide +kernel
theorem dX3_copyFrom_47 : decode cX3_copyFrom 47 = .ok (.getfield 18, 3) := by decide +kernel
theorem dX3_copyFrom_50 : decode cX3_copyFrom 50 = .ok (.arraylength, 1) := by decide +kernel
theorem dX3_copyFrom_51 : decode cX3_copyFrom 51 = .ok (.invokestatic 35, 3) := by decide +kernel
theorem dX3_copyFrom_54 : decode cX3_copyFrom 54 = .ok (.aload_n 0, 1) := by decide +kernel
theorem dX3_copyFrom_55 : decode cX3_copyFrom 55 = .ok (.aload_n 1, 1) := by decide +kernel
theorem dX3_copyFrom_56 : decode cX3_copyFrom 56 = .ok (.getfield 21, 3) := by decide +kernel
theorem dX3_copyFrom_59 : decode cX3_copyFrom 59 = .ok (.putfield 21, 3) := by decide +kernel
theorem dX3_copyFrom_62 : decode cX3_copyFrom 62 = .ok (.aload_n 0, 1) := by decide +kernel
theorem dX3_copyFrom_63 : decode cX3_copyFrom 63 = .ok (.aload_n 1, 1) := by decide +kernel
theorem dX3_copyFrom_64 : decode cX3_copyFrom 64 = .ok (.getfield 25, 3) := by decide +kernel
theorem dX3_copyFrom_67 : decode cX3_copyFrom 67 = .ok (.putfield 25, 3) := by decide +kernel
theorem dX3_copyFrom_70 : decode cX3_copyFrom 70 = .ok (.aload_n 0, 1) := by decide +kernel
theorem dX3_copyFrom_71 : decode cX3_copyFrom 71 = .ok (.aload_n 1, 1) := by decide +kernel
theorem dX3_copyFrom_72 : decode cX3_copyFrom 72 = .ok (.getfield 28, 3) := by decide +kernel
theorem dX3_copyFrom_75 : decode cX3_copyFrom 75 = .ok (.putfield 28, 3) := by decide +kernel
theorem dX3_copyFrom_78 : decode cX3_copyFrom 78 = .ok (.aload_n 0, 1) := by decide +kernel
theorem dX3_copyFrom_79 : decode cX3_copyFrom 79 = .ok (.aload_n 1, 1) := by decide +kernel
theorem dX3_copyFrom_80 : decode cX3_copyFrom 80 = .ok (.getfield 31, 3) := by decide +kernel
theorem dX3_copyFrom_83 : decode cX3_copyFrom 83 = .ok (.putfield 31, 3) := by decide +kernel
theorem dX3_copyFrom_86 : decode cX3_copyFrom 86 = .ok (.return_, 1) := by decide +kernel
theorem dX4_init_0 : decode cX4_init 0 = .ok (.aload_n 0, 1) := by decide +kernel
theorem dX4_init_1 : decode cX4_init 1 = .ok (.invokespecial 1, 3) := by decide +kernel
theorem dX4_init_4 : decode cX4_init 4 = .ok (.aload_n 0, 1) := by decide +kernel
theorem dX4_init_5 : decode cX4_init 5 = .ok (.new 7, 3) := by decide +kernel
theorem dX4_init_8 : decode cX4_init 8 = .ok (.dup, 1) := by decide +kernel
theorem dX4_init_9 : decode cX4_init 9 = .ok (.invokespecial 9, 3) := by decide +kernel
theorem dX4_init_12 : decode cX4_init 12 = .ok (.putfield 10, 3) := by decide +kernel
theorem dX4_init_15 : decode cX4_init 15 = .ok (.aload_n 0, 1) := by decide +kernel
theorem dX4_init_16 : decode cX4_init 16 = .ok (.new 16, 3) := by decide +kernel
theorem dX4_init_19 : decode cX4_init 19 = .ok (.dup, 1) := by decide +kernel
theorem dX4_init_20 : decode cX4_init 20 = .ok (.invokespecial 18, 3) := by decide +kernel
theorem dX4_init_23 : decode cX4_init 23 = .ok (.putfield 19, 3) := by decide +kernel
theorem dX4_init_26 : decode cX4_init 26 = .ok (.aload_n 0, 1) := by decide +kernel
theorem dX4_init_27 : decode cX4_init 27 = .ok (.aload_n 0, 1) := by decide +kernel
theorem dX4_init_28 : decode cX4_init 28 = .ok (.getfield 19, 3) := by decide +kernel
theorem dX4_init_31 : decode cX4_init 31 = .ok (.getfield 23, 3) := by decide +kernel
theorem dX4_init_34 : decode cX4_init 34 = .ok (.putfield 27, 3) := by decide +kernel
theorem dX4_init_37 : decode cX4_init 37 = .ok (.aload_n 0, 1) := by decide +kernel
theorem dX4_init_38 : decode cX4_init 38 = .ok (.bipush 64, 2) := by decide +kernel
theorem dX4_init_40 : decode cX4_init 40 = .ok (.newarray .boolean, 2) := by decide +kernel
theorem dX4_init_42 : decode cX4_init 42 = .ok (.putfield 28, 3) := by decide +kernel
theorem dX4_init_45 : decode cX4_init 45 = .ok (.aload_n 0, 1) := by decide +kernel
theorem dX4_init_46 : decode cX4_init 46 = .ok (.new 32, 3) := by decide +kernel
theorem dX4_init_49 : decode cX4_init 49 = .ok (.dup, 1) := by decide +kernel
theorem dX4_init_50 : decode cX4_init 50 = .ok (.iconst 1, 1) := by decide +kernel
theorem dX4_init_51 : decode cX4_init 51 = .ok (.bipush 100, 2) := by decide +kernel
theorem dX4_init_53 : decode cX4_init 53 = .ok (.iload_n 1, 1) := by decide +kernel
theorem dX4_init_54 : decode cX4_init 54 = .ok (.invokestatic 34, 3) := by decide +kernel
theorem dX4_init_57 : decode cX4_init 57 = .ok (.invokestatic 40, 3) := by decide +kernel
theorem dX4_init_60 : decode cX4_init 60 = .ok (.invokespecial 43, 3) := by decide +kernel
theorem dX4_init_63 : decode cX4_init 63 = .ok (.putfield 46, 3) := by decide +kernel
theorem dX4_init_66 : decode cX4_init 66 = .ok (.return_, 1) := by decide +kernel
theorem dX4_line_0 : decode cX4_line 0 = .ok (.iload_n 1, 1) := by decide +kernel
theorem dX4_line_1 : decode cX4_line 1 = .ok (.iload_n 2, 1) := by decide +kernel
theorem dX4_line_2 : decode cX4_line 2 = .ok (.iload_n 3, 1) := by decide +kernel
theorem dX4_line_3 : decode cX4_line 3 = .ok (.invokestatic 50, 3) := by decide +kernel
theorem dX4_line_6 : decode cX4_line 6 = .ok (.ifCond .ne 11, 3) := by decide +kernel
theorem dX4_line_9 : decode cX4_line 9 = .ok (.new 54, 3) := by decide +kernel
theorem dX4_line_12 : decode cX4_line 12 = .ok (.dup, 1) := by decide +kernel
theorem dX4_line_13 : decode cX4_line 13 = .ok (.invokespecial 56, 3) := by decide +kernel
theorem dX4_line_16 : decode cX4_line 16 = .ok (.athrow, 1) := by decide +kernel
theorem dX4_line_17 : decode cX4_line 17 = .ok (.aload_n 0, 1) := by decide +kernel
theorem dX4_line_18 : decode cX4_line 18 = .ok (.getfield 27, 3) := by decide +kernel
theorem dX4_line_21 : decode cX4_line 21 = .ok (.getfield 57, 3) := by decide +kernel
theorem dX4_line_24 : decode cX4_line 24 = .ok (.ifCond .eq 11, 3) := by decide +kernel
theorem dX4_line_27 : decode cX4_line 27 = .ok (.new 63, 3) := by decide +kernel
theorem dX4_line_30 : decode cX4_line 30 = .ok (.dup, 1) := by decide +kernel
theorem dX4_line_31 : decode cX4_line 31 = .ok (.invokespecial 65, 3) := by decide +kernel
theorem dX4_line_34 : decode cX4_line 34 = .ok (.athrow, 1) := by decide +kernel
theorem dX4_line_35 : decode cX4_line 35 = .ok (.aload_n 0, 1) := by decide +kernel
theorem dX4_line_36 : decode cX4_line 36 = .ok (.getfield 10, 3) := by decide +kernel
theorem dX4_line_39 : decode cX4_line 39 = .ok (.getfield 66, 3) := by decide +kernel
theorem dX4_line_42 : decode cX4_line 42 = .ok (.bipush 80, 2) := by decide +kernel
theorem dX4_line_44 : decode cX4_line 44 = .ok (.if_icmp .ne 11, 3) := by decide +kernel
theorem dX4_line_47 : decode cX4_line 47 = .ok (.new 69, 3) := by decide +kernel
theorem dX4_line_50 : decode cX4_line 50 = .ok (.dup, 1) := by decide +kernel
theorem dX4_line_51 : decode cX4_line 51 = .ok (.invokespecial 71, 3) := by decide +kernel
theorem dX4_line_54 : decode cX4_line 54 = .ok (.athrow, 1) := by decide +kernel
theorem dX4_line_55 : decode cX4_line 55 = .ok (.aload_n 0, 1) := by decide +kernel
theorem dX4_line_56 : decode cX4_line 56 = .ok (.getfield 10, 3) := by decide +kernel
theorem dX4_line_59 : decode cX4_line 59 = .ok (.iload_n 1, 1) := by decide +kernel
theorem dX4_line_60 : decode cX4_line 60 = .ok (.iload_n 2, 1) := by decide +kernel
theorem dX4_line_61 : decode cX4_line 61 = .ok (.iload_n 3, 1) := by decide +kernel
theorem dX4_line_62 : decode cX4_line 62 = .ok (.invokevirtual 72, 3) := by decide +kernel
theorem dX4_line_65 : decode cX4_line 65 = .ok (.aload_n 0, 1) := by decide +kernel
theorem dX4_line_66 : decode cX4_line 66 = .ok (.getfield 46, 3) := by decide +kernel
theorem dX4_line_69 : decode cX4_line 69 = .ok (.aload_n 0, 1) := by decide +kernel
theorem dX4_line_70 : decode cX4_line 70 = .ok (.getfield 27, 3) := by decide +kernel
theorem dX4_line_73 : decode cX4_line 73 = .ok (.invokevirtual 76, 3) := by decide +kernel
theorem dX4_line_76 : decode cX4_line 76 = .ok (.aload_n 0, 1) := by decide +kernel
theorem dX4_line_77 : decode cX4_line 77 = .ok (.getfield 10, 3) := by decide +kernel
theorem dX4_line_80 : decode cX4_line 80 = .ok (.getfield 66, 3) := by decide +kernel
theorem dX4_line_83 : decode cX4_line 83 = .ok (.iconst 1, 1) := by decide +kernel
theorem dX4_line_84 : decode cX4_line 84 = .ok (.isub, 1) := by decide +kernel
theorem dX4_line_85 : decode cX4_line 85 = .ok (.ireturn, 1) := by decide +kernel
theorem dX4_poke_0 : decode cX4_poke 0 = .ok (.iload_n 1, 1) := by decide +kernel
theorem dX4_poke_1 : decode cX4_poke 1 = .ok (.invokestatic 80, 3) := by decide +kernel
theorem dX4_poke_4 : decode cX4_poke 4 = .ok (.ifCond .ne 11, 3) := by decide +kernel
theorem dX4_poke_7 : decode cX4_poke 7 = .ok (.new 84, 3) := by decide +kernel
theorem dX4_poke_10 : decode cX4_poke 10 = .ok (.dup, 1) := by decide +kernel
theorem dX4_poke_11 : decode cX4_poke 11 = .ok (.invokespecial 86, 3) := by decide +kernel
theorem dX4_poke_14 : decode cX4_poke 14 = .ok (.athrow, 1) := by decide +kernel
theorem dX4_poke_15 : decode cX4_poke 15 = .ok (.aload_n 0, 1) := by decide +kernel
theorem dX4_poke_16 : decode cX4_poke 16 = .ok (.getfield 27, 3) := by decide +kernel
theorem dX4_poke_19 : decode cX4_poke 19 = .ok (.getfield 57, 3) := by decide +kernel
theorem dX4_poke_22 : decode cX4_poke 22 = .ok (.ifCond .eq 11, 3) := by decide +kernel
theorem dX4_poke_25 : decode cX4_poke 25 = .ok (.new 63, 3) := by decide +kernel
theorem dX4_poke_28 : decode cX4_poke 28 = .ok (.dup, 1) := by decide +kernel
theorem dX4_poke_29 : decode cX4_poke 29 = .ok (.invokespecial 65, 3) := by decide +kernel
theorem dX4_poke_32 : decode cX4_poke 32 = .ok (.athrow, 1) := by decide +kernel
theorem dX4_poke_33 : decode cX4_poke 33 = .ok (.aload_n 0, 1) := by decide +kernel
theorem dX4_poke_34 : decode cX4_poke 34 = .ok (.getfield 27, 3) := by decide +kernel
theorem dX4_poke_37 : decode cX4_poke 37 = .ok (.getfield 87, 3) := by decide +kernel
theorem dX4_poke_40 : decode cX4_poke 40 = .ok (.iload_n 1, 1) := by decide +kernel
theorem dX4_poke_41 : decode cX4_poke 41 = .ok (.iaload, 1) := by decide +kernel
theorem dX4_poke_42 : decode cX4_poke 42 = .ok (.istore_n 3, 1) := by decide +kernel
theorem dX4_poke_43 : decode cX4_poke 43 = .ok (.aload_n 0, 1) := by decide +kernel
theorem dX4_poke_44 : decode cX4_poke 44 = .ok (.getfield 27, 3) := by decide +kernel
theorem dX4_poke_47 : decode cX4_poke 47 = .ok (.getfield 87, 3) := by decide +kernel
theorem dX4_poke_50 : decode cX4_poke 50 = .ok (.iload_n 1, 1) := by decide +kernel
theorem dX4_poke_51 : decode cX4_poke 51 = .ok (.iload_n 2, 1) := by decide +kernel
theorem dX4_poke_52 : decode cX4_poke 52 = .ok (.iastore, 1) := by decide +kernel
theorem dX4_poke_53 : decode cX4_poke 53 = .ok (.aload_n 0, 1) := by decide +kernel
theorem dX4_poke_54 : decode cX4_poke 54 = .ok (.getfield 46, 3) := by decide +kernel
theorem dX4_poke_57 : decode cX4_poke 57 = .ok (.aload_n 0, 1) := by decide +kernel
theorem dX4_poke_58 : decode cX4_poke 58 = .ok (.getfield 27, 3) := by decide +kernel
theorem dX4_poke_61 : decode cX4_poke 61 = .ok (.invokevirtual 76, 3) := by decide +kernel
theorem dX4_poke_64 : decode cX4_poke 64 = .ok (.iload_n 3, 1) := by decide +kernel
theorem dX4_poke_65 : decode cX4_poke 65 = .ok (.ireturn, 1) := by decide +kernel
theorem dX4_mark_0 : decode cX4_mark 0 = .ok (.aload_n 0, 1) := by decide +kernel
theorem dX4_mark_1 : decode cX4_mark 1 = .ok (.getfield 10, 3) := by decide +kernel
theorem dX4_mark_4 : decode cX4_mark 4 = .ok (.iload_n 1, 1) := by decide +kernel
theorem dX4_mark_5 : decode cX4_mark 5 = .ok (.invokevirtual 91, 3) := by decide +kernel
theorem dX4_mark_8 : decode cX4_mark 8 = .ok (.ifCond .ne 11, 3) := by decide +kernel
theorem dX4_mark_11 : decode cX4_mark 11 = .ok (.new 84, 3) := by decide +kernel
theorem dX4_mark_14 : decode cX4_mark 14 = .ok (.dup, 1) := by decide +kernel
theorem dX4_mark_15 : decode cX4_mark 15 = .ok (.invokespecial 86, 3) := by decide +kernel
theorem dX4_mark_18 : decode cX4_mark 18 = .ok (.athrow, 1) := by decide +kernel
theorem dX4_mark_19 : decode cX4_mark 19 = .ok (.aload_n 0, 1) := by decide +kernel
theorem dX4_mark_20 : decode cX4_mark 20 = .ok (.getfield 10, 3) := by decide +kernel
theorem dX4_mark_23 : decode cX4_mark 23 = .ok (.getfield 94, 3) := by decide +kernel
theorem dX4_mark_26 : decode cX4_mark 26 = .ok (.iload_n 1, 1) := by decide +kernel
theorem dX4_mark_27 : decode cX4_mark 27 = .ok (.baload, 1) := by decide +kernel
theorem dX4_mark_28 : decode cX4_mark 28 = .ok (.iload_n 2, 1) := by decide +kernel
theorem dX4_mark_29 : decode cX4_mark 29 = .ok (.if_icmp .eq 7, 3) := by decide +kernel
theorem dX4_mark_32 : decode cX4_mark 32 = .ok (.iconst 1, 1) := by decide +kernel
theorem dX4_mark_33 : decode cX4_mark 33 = .ok (.goto 4, 3) := by decide +kernel
theorem dX4_mark_36 : decode cX4_mark 36 = .ok (.iconst 0, 1) := by decide +kernel
theorem dX4_mark_37 : decode cX4_mark 37 = .ok (.istore_n 3, 1) := by decide +kernel
theorem dX4_mark_38 : decode cX4_mark 38 = .ok (.aload_n 0, 1) := by decide +kernel
theorem dX4_mark_39 : decode cX4_mark 39 = .ok (.getfield 10, 3) := by decide +kernel
theorem dX4_mark_42 : decode cX4_mark 42 = .ok (.getfield 94, 3) := by decide +kernel
theorem dX4_mark_45 : decode cX4_mark 45 = .ok (.iload_n 1, 1) := by decide +kernel
theorem dX4_mark_46 : decode cX4_mark 46 = .ok (.iload_n 2, 1) := by decide +kernel
theorem dX4_mark_47 : decode cX4_mark 47 = .ok (.bastore, 1) := by decide +kernel
theorem dX4_mark_48 : decode cX4_mark 48 = .ok (.iload_n 3, 1) := by decide +kernel
theorem dX4_mark_49 : decode cX4_mark 49 = .ok (.ireturn, 1) := by decide +kernel
theorem dX4_watch_0 : decode cX4_watch 0 = .ok (.iload_n 1, 1) := by decide +kernel
theorem dX4_watch_1 : decode cX4_watch 1 = .ok (.invokestatic 80, 3) := by decide +kernel
theorem dX4_watch_4 : decode cX4_watch 4 = .ok (.ifCond .ne 11, 3) := by decide +kernel
theorem dX4_watch_7 : decode cX4_watch 7 = .ok (.new 84, 3) := by decide +kernel
theorem dX4_watch_10 : decode cX4_watch 10 = .ok (.dup, 1) := by decide +kernel
theorem dX4_watch_11 : decode cX4_watch 11 = .ok (.invokespecial 86, 3) := by decide +kernel
theorem dX4_watch_14 : decode cX4_watch 14 = .ok (.athrow, 1) := by decide +kernel
theorem dX4_watch_15 : decode cX4_watch 15 = .ok (.aload_n 0, 1) := by decide +kernel
theorem dX4_watch_16 : decode cX4_watch 16 = .ok (.getfield 28, 3) := by decide +kernel
theorem dX4_watch_19 : decode cX4_watch 19 = .ok (.iload_n 1, 1) := by decide +kernel
theorem dX4_watch_20 : decode cX4_watch 20 = .ok (.baload, 1) := by decide +kernel
theorem dX4_watch_21 : decode cX4_watch 21 = .ok (.iload_n 2, 1) := by decide +kernel
theorem dX4_watch_22 : decode cX4_watch 22 = .ok (.if_icmp .eq 7, 3) := by decide +kernel
theorem dX4_watch_25 : decode cX4_watch 25 = .ok (.iconst 1, 1) := by decide +kernel
theorem dX4_watch_26 : decode cX4_watch 26 = .ok (.goto 4, 3) := by decide +kernel
theorem dX4_watch_29 : decode cX4_watch 29 = .ok (.iconst 0, 1) := by decide +kernel
theorem dX4_watch_30 : decode cX4_watch 30 = .ok (.istore_n 3, 1) := by decide +kernel
theorem dX4_watch_31 : decode cX4_watch 31 = .ok (.aload_n 0, 1) := by decide +kernel
theorem dX4_watch_32 : decode cX4_watch 32 = .ok (.getfield 28, 3) := by decide +kernel
theorem dX4_watch_35 : decode cX4_watch 35 = .ok (.iload_n 1, 1) := by decide +kernel
theorem dX4_watch_36 : decode cX4_watch 36 = .ok (.iload_n 2, 1) := by decide +kernel
theorem dX4_watch_37 : decode cX4_watch 37 = .ok (.bastore, 1) := by decide +kernel
theorem dX4_watch_38 : decode cX4_watch 38 = .ok (.iload_n 3, 1) := by decide +kernel
theorem dX4_watch_39 : decode cX4_watch 39 = .ok (.ireturn, 1) := by decide +kernel
theorem dX4_step_0 : decode cX4_step 0 = .ok (.aload_n 0, 1) := by decide +kernel
theorem dX4_step_1 : decode cX4_step 1 = .ok (.invokevirtual 97, 3) := by decide +kernel
theorem dX4_step_4 : decode cX4_step 4 = .ok (.istore_n 1, 1) := by decide +kernel
theorem dX4_step_5 : decode cX4_step 5 = .ok (.iload_n 1, 1) := by decide +kernel
theorem dX4_step_6 : decode cX4_step 6 = .ok (.iconst 1, 1) := by decide +kernel
theorem dX4_step_7 : decode cX4_step 7 = .ok (.if_icmp .ne 7, 3) := by decide +kernel
theorem dX4_step_10 : decode cX4_step 10 = .ok (.iconst 0, 1) := by decide +kernel
theorem dX4_step_11 : decode cX4_step 11 = .ok (.goto 4, 3) := by decide +kernel
theorem dX4_step_14 : decode cX4_step 14 = .ok (.iload_n 1, 1) := by decide +kernel
theorem dX4_step_15 : decode cX4_step 15 = .ok (.ireturn, 1) := by decide +kernel
theorem dX4_next_0 : decode cX4_next 0 = .ok (.aload_n 0, 1) := by decide +kernel
theorem dX4_next_1 : decode cX4_next 1 = .ok (.aload_n 0, 1) := by decide +kernel
theorem dX4_next_2 : decode cX4_next 2 = .ok (.getfield 27, 3) := by decide +kernel
theorem dX4_next_5 : decode cX4_next 5 = .ok (.getfield 101, 3) := by decide +kernel
theorem dX4_next_8 : decode cX4_next 8 = .ok (.invokevirtual 104, 3) := by decide +kernel
theorem dX4_next_11 : decode cX4_next 11 = .ok (.ireturn, 1) := by decide +kernel
theorem dX4_finish_0 : decode cX4_finish 0 = .ok (.aload_n 0, 1) := by decide +kernel
theorem dX4_finish_1 : decode cX4_finish 1 = .ok (.aload_n 0, 1) := by decide +kernel
theorem dX4_finish_2 : decode cX4_finish 2 = .ok (.getfield 27, 3) := by decide +kernel
theorem dX4_finish_5 : decode cX4_finish 5 = .ok (.getfield 101, 3) := by decide +kernel
theorem dX4_finish_8 : decode cX4_finish 8 = .ok (.iconst 1, 1) := by decide +kernel
theorem dX4_finish_9 : decode cX4_finish 9 = .ok (.isub, 1) := by decide +kernel
theorem dX4_finish_10 : decode cX4_finish 10 = .ok (.invokevirtual 104, 3) := by decide +kernel
theorem dX4_finish_13 : decode cX4_finish 13 = .ok (.ireturn, 1) := by decide +kernel
theorem dX4_go_0 : decode cX4_go 0 = .ok (.aload_n 0, 1) := by decide +kernel
theorem dX4_go_1 : decode cX4_go 1 = .ok (.iconst 0, 1) := by decide +kernel
theorem dX4_go_2 : decode cX4_go 2 = .ok (.invokevirtual 104, 3) := by decide +kernel
theorem dX4_go_5 : decode cX4_go 5 = .ok (.ireturn, 1) := by decide +kernel
theorem dX4_back_0 : decode cX4_back 0 = .ok (.aload_n 0, 1) := by decide +kernel
theorem dX4_back_1 : decode cX4_back 1 = .ok (.getfield 27, 3) := by decide +kernel
theorem dX4_back_4 : decode cX4_back 4 = .ok (.getfield 57, 3) := by decide +kernel
theorem dX4_back_7 : decode cX4_back 7 = .ok (.ifCond .ne 11, 3) := by decide +kernel
theorem dX4_back_10 : decode cX4_back 10 = .ok (.aload_n 0, 1) := by decide +kernel
theorem dX4_back_11 : decode cX4_back 11 = .ok (.iconst 0, 1) := by decide +kernel
theorem dX4_back_12 : decode cX4_back 12 = .ok (.putfield 108, 3) := by decide +kernel
theorem dX4_back_15 : decode cX4_back 15 = .ok (.bipush 6, 2) := by decide +kernel
theorem dX4_back_17 : decode cX4_back 17 = .ok (.ireturn, 1) := by decide +kernel
theorem dX4_back_18 : decode cX4_back 18 = .ok (.aload_n 0, 1) := by decide +kernel
theorem dX4_back_19 : decode cX4_back 19 = .ok (.aload_n 0, 1) := by decide +kernel
theorem dX4_back_20 : decode cX4_back 20 = .ok (.getfield 27, 3) := by decide +kernel
theorem dX4_back_23 : decode cX4_back 23 = .ok (.getfield 57, 3) := by decide +kernel
theorem dX4_back_26 : decode cX4_back 26 = .ok (.iconst 1, 1) := by decide +kernel
theorem dX4_back_27 : decode cX4_back 27 = .ok (.isub, 1) := by decide +kernel
theorem dX4_back_28 : decode cX4_back 28 = .ok (.invokevirtual 112, 3) := by decide +kernel
theorem dX4_back_31 : decode cX4_back 31 = .ok (.iconst 0, 1) := by decide +kernel
theorem dX4_back_32 : decode cX4_back 32 = .ok (.ireturn, 1) := by decide +kernel
theorem dX4_reverse_0 : decode cX4_reverse 0 = .ok (.aload_n 0, 1) := by decide +kernel
theorem dX4_reverse_1 : decode cX4_reverse 1 = .ok (.getfield 27, 3) := by decide +kernel
theorem dX4_reverse_4 : decode cX4_reverse 4 = .ok (.getfield 57, 3) := by decide +kernel
theorem dX4_reverse_7 : decode cX4_reverse 7 = .ok (.iconst 1, 1) := by decide +kernel
theorem dX4_reverse_8 : decode cX4_reverse 8 = .ok (.isub, 1) := by decide +kernel
theorem dX4_reverse_9 : decode cX4_reverse 9 = .ok (.istore_n 1, 1) := by decide +kernel
theorem dX4_reverse_10 : decode cX4_reverse 10 = .ok (.iconst 0, 1) := by decide +kernel
theorem dX4_reverse_11 : decode cX4_reverse 11 = .ok (.istore_n 2, 1) := by decide +kernel
theorem dX4_reverse_12 : decode cX4_reverse 12 = .ok (.aload_n 0, 1) := by decide +kernel
theorem dX4_reverse_13 : decode cX4_reverse 13 = .ok (.getfield 46, 3) := by decide +kernel
theorem dX4_reverse_16 : decode cX4_reverse 16 = .ok (.iload_n 1, 1) := by decide +kernel
theorem dX4_reverse_17 : decode cX4_reverse 17 = .ok (.invokevirtual 115, 3) := by decide +kernel
theorem dX4_reverse_20 : decode cX4_reverse 20 = .ok (.istore_n 3, 1) := by decide +kernel
theorem dX4_reverse_21 : decode cX4_reverse 21 = .ok (.iload_n 3, 1) := by decide +kernel
theorem dX4_reverse_22 : decode cX4_reverse 22 = .ok (.ifCond .lt 33, 3) := by decide +kernel
theorem dX4_reverse_25 : decode cX4_reverse 25 = .ok (.iload_n 2, 1) := by decide +kernel
theorem dX4_reverse_26 : decode cX4_reverse 26 = .ok (.ifCond .ne 29, 3) := by decide +kernel
theorem dX4_reverse_29 : decode cX4_reverse 29 = .ok (.aload_n 0, 1) := by decide +kernel
theorem dX4_reverse_30 : decode cX4_reverse 30 = .ok (.iload_n 3, 1) := by decide +kernel
theorem dX4_reverse_31 : decode cX4_reverse 31 = .ok (.iload_n 1, 1) := by decide +kernel
theorem dX4_reverse_32 : decode cX4_reverse 32 = .ok (.invokevirtual 118, 3) := by decide +kernel
theorem dX4_reverse_35 : decode cX4_reverse 35 = .ok (.istore_n 2, 1) := by decide +kernel
theorem dX4_reverse_36 : decode cX4_reverse 36 = .ok (.aload_n 0, 1) := by decide +kernel
theorem dX4_reverse_37 : decode cX4_reverse 37 = .ok (.getfield 46, 3) := by decide +kernel
theorem dX4_reverse_40 : decode cX4_reverse 40 = .ok (.getfield 121, 3) := by decide +kernel
theorem dX4_reverse_43 : decode cX4_reverse 43 = .ok (.iload_n 3, 1) := by decide +kernel
theorem dX4_reverse_44 : decode cX4_reverse 44 = .ok (.aaload, 1) := by decide +kernel
theorem dX4_reverse_45 : decode cX4_reverse 45 = .ok (.getfield 57, 3) := by decide +kernel
theorem dX4_reverse_48 : decode cX4_reverse 48 = .ok (.istore_n 1, 1) := by decide +kernel
theorem dX4_reverse_49 : decode cX4_reverse 49 = .ok (.iinc 3 (-1), 3) := by decide +kernel
theorem dX4_reverse_52 : decode cX4_reverse 52 = .ok (.goto (-31), 3) := by decide +kernel
theorem dX4_reverse_55 : decode cX4_reverse 55 = .ok (.iload_n 2, 1) := by decide +kernel
theorem dX4_reverse_56 : decode cX4_reverse 56 = .ok (.ifCond .ne 11, 3) := by decide +kernel
theorem dX4_reverse_59 : decode cX4_reverse 59 = .ok (.aload_n 0, 1) := by decide +kernel
theorem dX4_reverse_60 : decode cX4_reverse 60 = .ok (.iconst 0, 1) := by decide +kernel
theorem dX4_reverse_61 : decode cX4_reverse 61 = .ok (.invokevirtual 112, 3) := by decide +kernel
theorem dX4_reverse_64 : decode cX4_reverse 64 = .ok (.bipush 6, 2) := by decide +kernel
theorem dX4_reverse_66 : decode cX4_reverse 66 = .ok (.ireturn, 1) := by decide +kernel
theorem dX4_reverse_67 : decode cX4_reverse 67 = .ok (.aload_n 0, 1) := by decide +kernel
theorem dX4_reverse_68 : decode cX4_reverse 68 = .ok (.iload_n 2, 1) := by decide +kernel
theorem dX4_reverse_69 : decode cX4_reverse 69 = .ok (.iconst 1, 1) := by decide +kernel
theorem dX4_reverse_70 : decode cX4_reverse 70 = .ok (.isub, 1) := by decide +kernel
theorem dX4_reverse_71 : decode cX4_reverse 71 = .ok (.invokevirtual 112, 3) := by decide +kernel
theorem dX4_reverse_74 : decode cX4_reverse 74 = .ok (.aload_n 0, 1) := by decide +kernel
theorem dX4_reverse_75 : decode cX4_reverse 75 = .ok (.invokevirtual 97, 3) := by decide +kernel
theorem dX4_reverse_78 : decode cX4_reverse 78 = .ok (.ireturn, 1) := by decide +kernel
theorem dX4_goTo_0 : decode cX4_goTo 0 = .ok (.iload_n 1, 1) := by decide +kernel
theorem dX4_goTo_1 : decode cX4_goTo 1 = .ok (.ifCond .lt 10, 3) := by decide +kernel
theorem dX4_goTo_4 : decode cX4_goTo 4 = .ok (.iload_n 1, 1) := by decide +kernel
theorem dX4_goTo_5 : decode cX4_goTo 5 = .ok (.sipush 2000, 3) := by decide +kernel
theorem dX4_goTo_8 : decode cX4_goTo 8 = .ok (.if_icmp .le 11, 3) := by decide +kernel
theorem dX4_goTo_11 : decode cX4_goTo 11 = .ok (.new 54, 3) := by decide +kernel
theorem dX4_goTo_14 : decode cX4_goTo 14 = .ok (.dup, 1) := by decide +kernel
theorem dX4_goTo_15 : decode cX4_goTo 15 = .ok (.invokespecial 56, 3) := by decide +kernel
theorem dX4_goTo_18 : decode cX4_goTo 18 = .ok (.athrow, 1) := by decide +kernel
theorem dX4_goTo_19 : decode cX4_goTo 19 = .ok (.aload_n 0, 1) := by decide +kernel
theorem dX4_goTo_20 : decode cX4_goTo 20 = .ok (.iload_n 1, 1) := by decide +kernel
theorem dX4_goTo_21 : decode cX4_goTo 21 = .ok (.invokevirtual 112, 3) := by decide +kernel
theorem dX4_goTo_24 : decode cX4_goTo 24 = .ok (.aload_n 0, 1) := by decide +kernel
theorem dX4_goTo_25 : decode cX4_goTo 25 = .ok (.getfield 27, 3) := by decide +kernel
theorem dX4_goTo_28 : decode cX4_goTo 28 = .ok (.getfield 57, 3) := by decide +kernel
theorem dX4_goTo_31 : decode cX4_goTo 31 = .ok (.ireturn, 1) := by decide +kernel
theorem dX4_local_0 : decode cX4_local 0 = .ok (.aload_n 0, 1) := by decide +kernel
theorem dX4_local_1 : decode cX4_local 1 = .ok (.getfield 27, 3) := by decide +kernel
theorem dX4_local_4 : decode cX4_local 4 = .ok (.iload_n 1, 1) := by decide +kernel
theorem dX4_local_5 : decode cX4_local 5 = .ok (.invokevirtual 125, 3) := by decide +kernel
theorem dX4_local_8 : decode cX4_local 8 = .ok (.ifCond .eq 10, 3) := by decide +kernel
theorem dX4_local_11 : decode cX4_local 11 = .ok (.iload_n 2, 1) := by decide +kernel
theorem dX4_local_12 : decode cX4_local 12 = .ok (.invokestatic 128, 3) := by decide +kernel
theorem dX4_local_15 : decode cX4_local 15 = .ok (.ifCond .ne 11, 3) := by decide +kernel
theorem dX4_local_18 : decode cX4_local 18 = .ok (.new 84, 3) := by decide +kernel
theorem dX4_local_21 : decode cX4_local 21 = .ok (.dup, 1) := by decide +kernel
theorem dX4_local_22 : decode cX4_local 22 = .ok (.invokespecial 86, 3) := by decide +kernel
