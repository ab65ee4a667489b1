theorem dX5_line_90 : decode cX5_line 90 = .ok (.bastore, 1) := by decide +kernel
theorem dX5_line_91 : decode cX5_line 91 = .ok (.aload_n 0, 1) := by decide +kernel
theorem dX5_line_92 : decode cX5_line 92 = .ok (.dup, 1) := by decide +kernel
theorem dX5_line_93 : decode cX5_line 93 = .ok (.getfield 93, 3) := by decide +kernel
theorem dX5_line_96 : decode cX5_line 96 = .ok (.iconst 1, 1) := by decide +kernel
theorem dX5_line_97 : decode cX5_line 97 = .ok (.iadd, 1) := by decide +kernel
theorem dX5_line_98 : decode cX5_line 98 = .ok (.putfield 93, 3) := by decide +kernel
theorem dX5_line_101 : decode cX5_line 101 = .ok (.aload_n 0, 1) := by decide +kernel
theorem dX5_line_102 : decode cX5_line 102 = .ok (.invokevirtual 48, 3) := by decide +kernel
theorem dX5_line_105 : decode cX5_line 105 = .ok (.aload_n 0, 1) := by decide +kernel
theorem dX5_line_106 : decode cX5_line 106 = .ok (.getfield 93, 3) := by decide +kernel
theorem dX5_line_109 : decode cX5_line 109 = .ok (.iconst 1, 1) := by decide +kernel
theorem dX5_line_110 : decode cX5_line 110 = .ok (.isub, 1) := by decide +kernel
theorem dX5_line_111 : decode cX5_line 111 = .ok (.ireturn, 1) := by decide +kernel
theorem dX5_poke_0 : decode cX5_poke 0 = .ok (.aload_n 0, 1) := by decide +kernel
theorem dX5_poke_1 : decode cX5_poke 1 = .ok (.iload_n 1, 1) := by decide +kernel
theorem dX5_poke_2 : decode cX5_poke 2 = .ok (.ifCond .lt 9, 3) := by decide +kernel
theorem dX5_poke_5 : decode cX5_poke 5 = .ok (.iload_n 1, 1) := by decide +kernel
theorem dX5_poke_6 : decode cX5_poke 6 = .ok (.bipush 63, 2) := by decide +kernel
theorem dX5_poke_8 : decode cX5_poke 8 = .ok (.if_icmp .le 7, 3) := by decide +kernel
theorem dX5_poke_11 : decode cX5_poke 11 = .ok (.iconst 1, 1) := by decide +kernel
theorem dX5_poke_12 : decode cX5_poke 12 = .ok (.goto 15, 3) := by decide +kernel
theorem dX5_poke_15 : decode cX5_poke 15 = .ok (.aload_n 0, 1) := by decide +kernel
theorem dX5_poke_16 : decode cX5_poke 16 = .ok (.getfield 73, 3) := by decide +kernel
theorem dX5_poke_19 : decode cX5_poke 19 = .ok (.ifCond .eq 7, 3) := by decide +kernel
theorem dX5_poke_22 : decode cX5_poke 22 = .ok (.iconst 2, 1) := by decide +kernel
theorem dX5_poke_23 : decode cX5_poke 23 = .ok (.goto 4, 3) := by decide +kernel
theorem dX5_poke_26 : decode cX5_poke 26 = .ok (.iconst 0, 1) := by decide +kernel
theorem dX5_poke_27 : decode cX5_poke 27 = .ok (.putfield 51, 3) := by decide +kernel
theorem dX5_poke_30 : decode cX5_poke 30 = .ok (.aload_n 0, 1) := by decide +kernel
theorem dX5_poke_31 : decode cX5_poke 31 = .ok (.getfield 51, 3) := by decide +kernel
theorem dX5_poke_34 : decode cX5_poke 34 = .ok (.ifCond .le 5, 3) := by decide +kernel
theorem dX5_poke_37 : decode cX5_poke 37 = .ok (.iconst 0, 1) := by decide +kernel
theorem dX5_poke_38 : decode cX5_poke 38 = .ok (.ireturn, 1) := by decide +kernel
theorem dX5_poke_39 : decode cX5_poke 39 = .ok (.aload_n 0, 1) := by decide +kernel
theorem dX5_poke_40 : decode cX5_poke 40 = .ok (.getfield 26, 3) := by decide +kernel
theorem dX5_poke_43 : decode cX5_poke 43 = .ok (.iload_n 1, 1) := by decide +kernel
theorem dX5_poke_44 : decode cX5_poke 44 = .ok (.iaload, 1) := by decide +kernel
theorem dX5_poke_45 : decode cX5_poke 45 = .ok (.istore_n 3, 1) := by decide +kernel
theorem dX5_poke_46 : decode cX5_poke 46 = .ok (.aload_n 0, 1) := by decide +kernel
theorem dX5_poke_47 : decode cX5_poke 47 = .ok (.getfield 26, 3) := by decide +kernel
theorem dX5_poke_50 : decode cX5_poke 50 = .ok (.iload_n 1, 1) := by decide +kernel
theorem dX5_poke_51 : decode cX5_poke 51 = .ok (.iload_n 2, 1) := by decide +kernel
theorem dX5_poke_52 : decode cX5_poke 52 = .ok (.iastore, 1) := by decide +kernel
theorem dX5_poke_53 : decode cX5_poke 53 = .ok (.aload_n 0, 1) := by decide +kernel
theorem dX5_poke_54 : decode cX5_poke 54 = .ok (.invokevirtual 48, 3) := by decide +kernel
theorem dX5_poke_57 : decode cX5_poke 57 = .ok (.iload_n 3, 1) := by decide +kernel
theorem dX5_poke_58 : decode cX5_poke 58 = .ok (.ireturn, 1) := by decide +kernel
theorem dX5_mark_0 : decode cX5_mark 0 = .ok (.aload_n 0, 1) := by decide +kernel
theorem dX5_mark_1 : decode cX5_mark 1 = .ok (.iload_n 1, 1) := by decide +kernel
theorem dX5_mark_2 : decode cX5_mark 2 = .ok (.ifCond .lt 15, 3) := by decide +kernel
theorem dX5_mark_5 : decode cX5_mark 5 = .ok (.iload_n 1, 1) := by decide +kernel
theorem dX5_mark_6 : decode cX5_mark 6 = .ok (.aload_n 0, 1) := by decide +kernel
theorem dX5_mark_7 : decode cX5_mark 7 = .ok (.getfield 93, 3) := by decide +kernel
theorem dX5_mark_10 : decode cX5_mark 10 = .ok (.if_icmp .ge 7, 3) := by decide +kernel
theorem dX5_mark_13 : decode cX5_mark 13 = .ok (.iconst 0, 1) := by decide +kernel
theorem dX5_mark_14 : decode cX5_mark 14 = .ok (.goto 4, 3) := by decide +kernel
theorem dX5_mark_17 : decode cX5_mark 17 = .ok (.iconst 1, 1) := by decide +kernel
theorem dX5_mark_18 : decode cX5_mark 18 = .ok (.putfield 51, 3) := by decide +kernel
theorem dX5_mark_21 : decode cX5_mark 21 = .ok (.aload_n 0, 1) := by decide +kernel
theorem dX5_mark_22 : decode cX5_mark 22 = .ok (.getfield 51, 3) := by decide +kernel
theorem dX5_mark_25 : decode cX5_mark 25 = .ok (.ifCond .le 5, 3) := by decide +kernel
theorem dX5_mark_28 : decode cX5_mark 28 = .ok (.iconst 0, 1) := by decide +kernel
theorem dX5_mark_29 : decode cX5_mark 29 = .ok (.ireturn, 1) := by decide +kernel
theorem dX5_mark_30 : decode cX5_mark 30 = .ok (.aload_n 0, 1) := by decide +kernel
theorem dX5_mark_31 : decode cX5_mark 31 = .ok (.getfield 19, 3) := by decide +kernel
theorem dX5_mark_34 : decode cX5_mark 34 = .ok (.iload_n 1, 1) := by decide +kernel
theorem dX5_mark_35 : decode cX5_mark 35 = .ok (.baload, 1) := by decide +kernel
theorem dX5_mark_36 : decode cX5_mark 36 = .ok (.iload_n 2, 1) := by decide +kernel
theorem dX5_mark_37 : decode cX5_mark 37 = .ok (.if_icmp .eq 7, 3) := by decide +kernel
theorem dX5_mark_40 : decode cX5_mark 40 = .ok (.iconst 1, 1) := by decide +kernel
theorem dX5_mark_41 : decode cX5_mark 41 = .ok (.goto 4, 3) := by decide +kernel
theorem dX5_mark_44 : decode cX5_mark 44 = .ok (.iconst 0, 1) := by decide +kernel
theorem dX5_mark_45 : decode cX5_mark 45 = .ok (.istore_n 3, 1) := by decide +kernel
theorem dX5_mark_46 : decode cX5_mark 46 = .ok (.aload_n 0, 1) := by decide +kernel
theorem dX5_mark_47 : decode cX5_mark 47 = .ok (.getfield 19, 3) := by decide +kernel
theorem dX5_mark_50 : decode cX5_mark 50 = .ok (.iload_n 1, 1) := by decide +kernel
theorem dX5_mark_51 : decode cX5_mark 51 = .ok (.iload_n 2, 1) := by decide +kernel
theorem dX5_mark_52 : decode cX5_mark 52 = .ok (.bastore, 1) := by decide +kernel
theorem dX5_mark_53 : decode cX5_mark 53 = .ok (.iload_n 3, 1) := by decide +kernel
theorem dX5_mark_54 : decode cX5_mark 54 = .ok (.ireturn, 1) := by decide +kernel
theorem dX5_watch_0 : decode cX5_watch 0 = .ok (.aload_n 0, 1) := by decide +kernel
theorem dX5_watch_1 : decode cX5_watch 1 = .ok (.iload_n 1, 1) := by decide +kernel
theorem dX5_watch_2 : decode cX5_watch 2 = .ok (.ifCond .lt 13, 3) := by decide +kernel
theorem dX5_watch_5 : decode cX5_watch 5 = .ok (.iload_n 1, 1) := by decide +kernel
theorem dX5_watch_6 : decode cX5_watch 6 = .ok (.bipush 64, 2) := by decide +kernel
theorem dX5_watch_8 : decode cX5_watch 8 = .ok (.if_icmp .ge 7, 3) := by decide +kernel
theorem dX5_watch_11 : decode cX5_watch 11 = .ok (.iconst 0, 1) := by decide +kernel
theorem dX5_watch_12 : decode cX5_watch 12 = .ok (.goto 4, 3) := by decide +kernel
theorem dX5_watch_15 : decode cX5_watch 15 = .ok (.iconst 1, 1) := by decide +kernel
theorem dX5_watch_16 : decode cX5_watch 16 = .ok (.putfield 51, 3) := by decide +kernel
theorem dX5_watch_19 : decode cX5_watch 19 = .ok (.aload_n 0, 1) := by decide +kernel
theorem dX5_watch_20 : decode cX5_watch 20 = .ok (.getfield 51, 3) := by decide +kernel
theorem dX5_watch_23 : decode cX5_watch 23 = .ok (.ifCond .le 5, 3) := by decide +kernel
theorem dX5_watch_26 : decode cX5_watch 26 = .ok (.iconst 0, 1) := by decide +kernel
theorem dX5_watch_27 : decode cX5_watch 27 = .ok (.ireturn, 1) := by decide +kernel
theorem dX5_watch_28 : decode cX5_watch 28 = .ok (.aload_n 0, 1) := by decide +kernel
theorem dX5_watch_29 : decode cX5_watch 29 = .ok (.getfield 23, 3) := by decide +kernel
theorem dX5_watch_32 : decode cX5_watch 32 = .ok (.iload_n 1, 1) := by decide +kernel
theorem dX5_watch_33 : decode cX5_watch 33 = .ok (.baload, 1) := by decide +kernel
theorem dX5_watch_34 : decode cX5_watch 34 = .ok (.iload_n 2, 1) := by decide +kernel
theorem dX5_watch_35 : decode cX5_watch 35 = .ok (.if_icmp .eq 7, 3) := by decide +kernel
theorem dX5_watch_38 : decode cX5_watch 38 = .ok (.iconst 1, 1) := by decide +kernel
theorem dX5_watch_39 : decode cX5_watch 39 = .ok (.goto 4, 3) := by decide +kernel
theorem dX5_watch_42 : decode cX5_watch 42 = .ok (.iconst 0, 1) := by decide +kernel
theorem dX5_watch_43 : decode cX5_watch 43 = .ok (.istore_n 3, 1) := by decide +kernel
theorem dX5_watch_44 : decode cX5_watch 44 = .ok (.aload_n 0, 1) := by decide +kernel
theorem dX5_watch_45 : decode cX5_watch 45 = .ok (.getfield 23, 3) := by decide +kernel
theorem dX5_watch_48 : decode cX5_watch 48 = .ok (.iload_n 1, 1) := by decide +kernel
theorem dX5_watch_49 : decode cX5_watch 49 = .ok (.iload_n 2, 1) := by decide +kernel
theorem dX5_watch_50 : decode cX5_watch 50 = .ok (.bastore, 1) := by decide +kernel
theorem dX5_watch_51 : decode cX5_watch 51 = .ok (.iload_n 3, 1) := by decide +kernel
theorem dX5_watch_52 : decode cX5_watch 52 = .ok (.ireturn, 1) := by decide +kernel
theorem dX5_canDo_0 : decode cX5_canDo 0 = .ok (.iload_n 1, 1) := by decide +kernel
theorem dX5_canDo_1 : decode cX5_canDo 1 = .ok (.ifCond .lt 11, 3) := by decide +kernel
theorem dX5_canDo_4 : decode cX5_canDo 4 = .ok (.iload_n 1, 1) := by decide +kernel
theorem dX5_canDo_5 : decode cX5_canDo 5 = .ok (.aload_n 0, 1) := by decide +kernel
theorem dX5_canDo_6 : decode cX5_canDo 6 = .ok (.getfield 93, 3) := by decide +kernel
theorem dX5_canDo_9 : decode cX5_canDo 9 = .ok (.if_icmp .lt 5, 3) := by decide +kernel
theorem dX5_canDo_12 : decode cX5_canDo 12 = .ok (.iconst 0, 1) := by decide +kernel
theorem dX5_canDo_13 : decode cX5_canDo 13 = .ok (.ireturn, 1) := by decide +kernel
theorem dX5_canDo_14 : decode cX5_canDo 14 = .ok (.bipush 8, 2) := by decide +kernel
theorem dX5_canDo_16 : decode cX5_canDo 16 = .ok (.aload_n 0, 1) := by decide +kernel
theorem dX5_canDo_17 : decode cX5_canDo 17 = .ok (.getfield 70, 3) := by decide +kernel
theorem dX5_canDo_20 : decode cX5_canDo 20 = .ok (.iconst 1, 1) := by decide +kernel
theorem dX5_canDo_21 : decode cX5_canDo 21 = .ok (.isub, 1) := by decide +kernel
theorem dX5_canDo_22 : decode cX5_canDo 22 = .ok (.imul, 1) := by decide +kernel
theorem dX5_canDo_23 : decode cX5_canDo 23 = .ok (.istore_n 2, 1) := by decide +kernel
theorem dX5_canDo_24 : decode cX5_canDo 24 = .ok (.aload_n 0, 1) := by decide +kernel
theorem dX5_canDo_25 : decode cX5_canDo 25 = .ok (.getfield 13, 3) := by decide +kernel
theorem dX5_canDo_28 : decode cX5_canDo 28 = .ok (.iload_n 1, 1) := by decide +kernel
theorem dX5_canDo_29 : decode cX5_canDo 29 = .ok (.iaload, 1) := by decide +kernel
theorem dX5_canDo_30 : decode cX5_canDo 30 = .ok (.istore_n 3, 1) := by decide +kernel
theorem dX5_canDo_31 : decode cX5_canDo 31 = .ok (.aload_n 0, 1) := by decide +kernel
theorem dX5_canDo_32 : decode cX5_canDo 32 = .ok (.getfield 16, 3) := by decide +kernel
theorem dX5_canDo_35 : decode cX5_canDo 35 = .ok (.iload_n 1, 1) := by decide +kernel
theorem dX5_canDo_36 : decode cX5_canDo 36 = .ok (.iaload, 1) := by decide +kernel
theorem dX5_canDo_37 : decode cX5_canDo 37 = .ok (.istore 4, 2) := by decide +kernel
theorem dX5_canDo_39 : decode cX5_canDo 39 = .ok (.aload_n 0, 1) := by decide +kernel
theorem dX5_canDo_40 : decode cX5_canDo 40 = .ok (.getfield 7, 3) := by decide +kernel
theorem dX5_canDo_43 : decode cX5_canDo 43 = .ok (.iload_n 1, 1) := by decide +kernel
theorem dX5_canDo_44 : decode cX5_canDo 44 = .ok (.iaload, 1) := by decide +kernel
theorem dX5_canDo_45 : decode cX5_canDo 45 = .ok (.tableswitch 158 4 11 #[47, 65, 97, 158, 158, 127, 158, 142], 47) := by decide +kernel
theorem dX5_canDo_92 : decode cX5_canDo 92 = .ok (.aload_n 0, 1) := by decide +kernel
theorem dX5_canDo_93 : decode cX5_canDo 93 = .ok (.getfield 32, 3) := by decide +kernel
theorem dX5_canDo_96 : decode cX5_canDo 96 = .ok (.iload_n 2, 1) := by decide +kernel
theorem dX5_canDo_97 : decode cX5_canDo 97 = .ok (.iload 4, 2) := by decide +kernel
theorem dX5_canDo_99 : decode cX5_canDo 99 = .ok (.iadd, 1) := by decide +kernel
theorem dX5_canDo_100 : decode cX5_canDo 100 = .ok (.iaload, 1) := by decide +kernel
theorem dX5_canDo_101 : decode cX5_canDo 101 = .ok (.ifCond .eq 7, 3) := by decide +kernel
theorem dX5_canDo_104 : decode cX5_canDo 104 = .ok (.iconst 1, 1) := by decide +kernel
theorem dX5_canDo_105 : decode cX5_canDo 105 = .ok (.goto 4, 3) := by decide +kernel
theorem dX5_canDo_108 : decode cX5_canDo 108 = .ok (.iconst 0, 1) := by decide +kernel
theorem dX5_canDo_109 : decode cX5_canDo 109 = .ok (.ireturn, 1) := by decide +kernel
theorem dX5_canDo_110 : decode cX5_canDo 110 = .ok (.aload_n 0, 1) := by decide +kernel
theorem dX5_canDo_111 : decode cX5_canDo 111 = .ok (.getfield 32, 3) := by decide +kernel
theorem dX5_canDo_114 : decode cX5_canDo 114 = .ok (.iload_n 2, 1) := by decide +kernel
theorem dX5_canDo_115 : decode cX5_canDo 115 = .ok (.iload 4, 2) := by decide +kernel
theorem dX5_canDo_117 : decode cX5_canDo 117 = .ok (.iadd, 1) := by decide +kernel
theorem dX5_canDo_118 : decode cX5_canDo 118 = .ok (.iaload, 1) := by decide +kernel
theorem dX5_canDo_119 : decode cX5_canDo 119 = .ok (.ifCond .lt 21, 3) := by decide +kernel
theorem dX5_canDo_122 : decode cX5_canDo 122 = .ok (.aload_n 0, 1) := by decide +kernel
theorem dX5_canDo_123 : decode cX5_canDo 123 = .ok (.getfield 32, 3) := by decide +kernel
theorem dX5_canDo_126 : decode cX5_canDo 126 = .ok (.iload_n 2, 1) := by decide +kernel
theorem dX5_canDo_127 : decode cX5_canDo 127 = .ok (.iload 4, 2) := by decide +kernel
theorem dX5_canDo_129 : decode cX5_canDo 129 = .ok (.iadd, 1) := by decide +kernel
theorem dX5_canDo_130 : decode cX5_canDo 130 = .ok (.iaload, 1) := by decide +kernel
theorem dX5_canDo_131 : decode cX5_canDo 131 = .ok (.bipush 64, 2) := by decide +kernel
theorem dX5_canDo_133 : decode cX5_canDo 133 = .ok (.if_icmp .ge 7, 3) := by decide +kernel
theorem dX5_canDo_136 : decode cX5_canDo 136 = .ok (.iconst 1, 1) := by decide +kernel
theorem dX5_canDo_137 : decode cX5_canDo 137 = .ok (.goto 4, 3) := by decide +kernel
theorem dX5_canDo_140 : decode cX5_canDo 140 = .ok (.iconst 0, 1) := by decide +kernel
theorem dX5_canDo_141 : decode cX5_canDo 141 = .ok (.ireturn, 1) := by decide +kernel
theorem dX5_canDo_142 : decode cX5_canDo 142 = .ok (.aload_n 0, 1) := by decide +kernel
theorem dX5_canDo_143 : decode cX5_canDo 143 = .ok (.getfield 32, 3) := by decide +kernel
theorem dX5_canDo_146 : decode cX5_canDo 146 = .ok (.iload_n 2, 1) := by decide +kernel
theorem dX5_canDo_147 : decode cX5_canDo 147 = .ok (.iload_n 3, 1) := by decide +kernel
theorem dX5_canDo_148 : decode cX5_canDo 148 = .ok (.iadd, 1) := by decide +kernel
theorem dX5_canDo_149 : decode cX5_canDo 149 = .ok (.iaload, 1) := by decide +kernel
theorem dX5_canDo_150 : decode cX5_canDo 150 = .ok (.ifCond .lt 20, 3) := by decide +kernel
theorem dX5_canDo_153 : decode cX5_canDo 153 = .ok (.aload_n 0, 1) := by decide +kernel
theorem dX5_canDo_154 : decode cX5_canDo 154 = .ok (.getfield 32, 3) := by decide +kernel
theorem dX5_canDo_157 : decode cX5_canDo 157 = .ok (.iload_n 2, 1) := by decide +kernel
theorem dX5_canDo_158 : decode cX5_canDo 158 = .ok (.iload_n 3, 1) := by decide +kernel
theorem dX5_canDo_159 : decode cX5_canDo 159 = .ok (.iadd, 1) := by decide +kernel
theorem dX5_canDo_160 : decode cX5_canDo 160 = .ok (.iaload, 1) := by decide +kernel
theorem dX5_canDo_161 : decode cX5_canDo 161 = .ok (.bipush 64, 2) := by decide +kernel
theorem dX5_canDo_163 : decode cX5_canDo 163 = .ok (.if_icmp .ge 7, 3) := by decide +kernel
theorem dX5_canDo_166 : decode cX5_canDo 166 = .ok (.iconst 1, 1) := by decide +kernel
theorem dX5_canDo_167 : decode cX5_canDo 167 = .ok (.goto 4, 3) := by decide +kernel
theorem dX5_canDo_170 : decode cX5_canDo 170 = .ok (.iconst 0, 1) := by decide +kernel
theorem dX5_canDo_171 : decode cX5_canDo 171 = .ok (.ireturn, 1) := by decide +kernel
theorem dX5_canDo_172 : decode cX5_canDo 172 = .ok (.aload_n 0, 1) := by decide +kernel
theorem dX5_canDo_173 : decode cX5_canDo 173 = .ok (.getfield 70, 3) := by decide +kernel
theorem dX5_canDo_176 : decode cX5_canDo 176 = .ok (.bipush 16, 2) := by decide +kernel
theorem dX5_canDo_178 : decode cX5_canDo 178 = .ok (.if_icmp .ge 7, 3) := by decide +kernel
theorem dX5_canDo_181 : decode cX5_canDo 181 = .ok (.iconst 1, 1) := by decide +kernel
theorem dX5_canDo_182 : decode cX5_canDo 182 = .ok (.goto 4, 3) := by decide +kernel
theorem dX5_canDo_185 : decode cX5_canDo 185 = .ok (.iconst 0, 1) := by decide +kernel
theorem dX5_canDo_186 : decode cX5_canDo 186 = .ok (.ireturn, 1) := by decide +kernel
theorem dX5_canDo_187 : decode cX5_canDo 187 = .ok (.aload_n 0, 1) := by decide +kernel
theorem dX5_canDo_188 : decode cX5_canDo 188 = .ok (.getfield 76, 3) := by decide +kernel
theorem dX5_canDo_191 : decode cX5_canDo 191 = .ok (.sipush 200, 3) := by decide +kernel
theorem dX5_canDo_194 : decode cX5_canDo 194 = .ok (.if_icmp .ge 7, 3) := by decide +kernel
theorem dX5_canDo_197 : decode cX5_canDo 197 = .ok (.iconst 1, 1) := by decide +kernel
theorem dX5_canDo_198 : decode cX5_canDo 198 = .ok (.goto 4, 3) := by decide +kernel
theorem dX5_canDo_201 : decode cX5_canDo 201 = .ok (.iconst 0, 1) := by decide +kernel
theorem dX5_canDo_202 : decode cX5_canDo 202 = .ok (.ireturn, 1) := by decide +kernel
theorem dX5_canDo_203 : decode cX5_canDo 203 = .ok (.iconst 1, 1) := by decide +kernel
theorem dX5_canDo_204 : decode cX5_canDo 204 = .ok (.ireturn, 1) := by decide +kernel
theorem dX5_isDone_0 : decode cX5_isDone 0 = .ok (.aload_n 0, 1) := by decide +kernel
theorem dX5_isDone_1 : decode cX5_isDone 1 = .ok (.getfield 35, 3) := by decide +kernel
theorem dX5_isDone_4 : decode cX5_isDone 4 = .ok (.aload_n 0, 1) := by decide +kernel
theorem dX5_isDone_5 : decode cX5_isDone 5 = .ok (.getfield 70, 3) := by decide +kernel
theorem dX5_isDone_8 : decode cX5_isDone 8 = .ok (.iconst 1, 1) := by decide +kernel
theorem dX5_isDone_9 : decode cX5_isDone 9 = .ok (.isub, 1) := by decide +kernel
theorem dX5_isDone_10 : decode cX5_isDone 10 = .ok (.iaload, 1) := by decide +kernel
theorem dX5_isDone_11 : decode cX5_isDone 11 = .ok (.istore_n 1, 1) := by decide +kernel
theorem dX5_isDone_12 : decode cX5_isDone 12 = .ok (.aload_n 0, 1) := by decide +kernel
theorem dX5_isDone_13 : decode cX5_isDone 13 = .ok (.iload_n 1, 1) := by decide +kernel
theorem dX5_isDone_14 : decode cX5_isDone 14 = .ok (.invokevirtual 96, 3) := by decide +kernel
theorem dX5_isDone_17 : decode cX5_isDone 17 = .ok (.ifCond .ne 5, 3) := by decide +kernel
theorem dX5_isDone_20 : decode cX5_isDone 20 = .ok (.iconst 0, 1) := by decide +kernel
theorem dX5_isDone_21 : decode cX5_isDone 21 = .ok (.ireturn, 1) := by decide +kernel
theorem dX5_isDone_22 : decode cX5_isDone 22 = .ok (.bipush 8, 2) := by decide +kernel
theorem dX5_isDone_24 : decode cX5_isDone 24 = .ok (.aload_n 0, 1) := by decide +kernel
theorem dX5_isDone_25 : decode cX5_isDone 25 = .ok (.getfield 70, 3) := by decide +kernel
theorem dX5_isDone_28 : decode cX5_isDone 28 = .ok (.iconst 1, 1) := by decide +kernel
theorem dX5_isDone_29 : decode cX5_isDone 29 = .ok (.isub, 1) := by decide +kernel
theorem dX5_isDone_30 : decode cX5_isDone 30 = .ok (.imul, 1) := by decide +kernel
theorem dX5_isDone_31 : decode cX5_isDone 31 = .ok (.istore_n 2, 1) := by decide +kernel
theorem dX5_isDone_32 : decode cX5_isDone 32 = .ok (.aload_n 0, 1) := by decide +kernel
theorem dX5_isDone_33 : decode cX5_isDone 33 = .ok (.getfield 13, 3) := by decide +kernel
theorem dX5_isDone_36 : decode cX5_isDone 36 = .ok (.iload_n 1, 1) := by decide +kernel
theorem dX5_isDone_37 : decode cX5_isDone 37 = .ok (.iaload, 1) := by decide +kernel
theorem dX5_isDone_38 : decode cX5_isDone 38 = .ok (.istore_n 3, 1) := by decide +kernel
theorem dX5_isDone_39 : decode cX5_isDone 39 = .ok (.aload_n 0, 1) := by decide +kernel
theorem dX5_isDone_40 : decode cX5_isDone 40 = .ok (.getfield 16, 3) := by decide +kernel
theorem dX5_isDone_43 : decode cX5_isDone 43 = .ok (.iload_n 1, 1) := by decide +kernel
theorem dX5_isDone_44 : decode cX5_isDone 44 = .ok (.iaload, 1) := by decide +kernel
theorem dX5_isDone_45 : decode cX5_isDone 45 = .ok (.istore 4, 2) := by decide +kernel
theorem dX5_isDone_47 : decode cX5_isDone 47 = .ok (.aload_n 0, 1) := by decide +kernel
theorem dX5_isDone_48 : decode cX5_isDone 48 = .ok (.iconst (-1), 1) := by decide +kernel
theorem dX5_isDone_49 : decode cX5_isDone 49 = .ok (.putfield 82, 3) := by decide +kernel
theorem dX5_isDone_52 : decode cX5_isDone 52 = .ok (.aload_n 0, 1) := by decide +kernel
theorem dX5_isDone_53 : decode cX5_isDone 53 = .ok (.dup, 1) := by decide +kernel
theorem dX5_isDone_54 : decode cX5_isDone 54 = .ok (.getfield 73, 3) := by decide +kernel
theorem dX5_isDone_57 : decode cX5_isDone 57 = .ok (.iconst 1, 1) := by decide +kernel
theorem dX5_isDone_58 : decode cX5_isDone 58 = .ok (.iadd, 1) := by decide +kernel
theorem dX5_isDone_59 : decode cX5_isDone 59 = .ok (.putfield 73, 3) := by decide +kernel
theorem dX5_isDone_62 : decode cX5_isDone 62 = .ok (.iload_n 1, 1) := by decide +kernel
theorem dX5_isDone_63 : decode cX5_isDone 63 = .ok (.iconst 1, 1) := by decide +kernel
theorem dX5_isDone_64 : decode cX5_isDone 64 = .ok (.iadd, 1) := by decide +kernel
theorem dX5_isDone_65 : decode cX5_isDone 65 = .ok (.istore 5, 2) := by decide +kernel
theorem dX5_isDone_67 : decode cX5_isDone 67 = .ok (.aload_n 0, 1) := by decide +kernel
theorem dX5_isDone_68 : decode cX5_isDone 68 = .ok (.getfield 7, 3) := by decide +kernel
theorem dX5_isDone_71 : decode cX5_isDone 71 = .ok (.iload_n 1, 1) := by decide +kernel
theorem dX5_isDone_72 : decode cX5_isDone 72 = .ok (.iaload, 1) := by decide +kernel
theorem dX5_isDone_73 : decode cX5_isDone 73 = .ok (.tableswitch 486 0 11 #[63, 76, 105, 134, 163, 192, 217, 283, 289, 312, 389, 456], 63) := by decide +kernel
theorem dX5_isDone_136 : decode cX5_isDone 136 = .ok (.aload_n 0, 1) := by decide +kernel
theorem dX5_isDone_137 : decode cX5_isDone 137 = .ok (.getfield 32, 3) := by decide +kernel
theorem dX5_isDone_140 : decode cX5_isDone 140 = .ok (.iload_n 2, 1) := by decide +kernel
theorem dX5_isDone_141 : decode cX5_isDone 141 = .ok (.iload_n 3, 1) := by decide +kernel
theorem dX5_isDone_142 : decode cX5_isDone 142 = .ok (.iadd, 1) := by decide +kernel
theorem dX5_isDone_143 : decode cX5_isDone 143 = .ok (.iload 4, 2) := by decide +kernel
theorem dX5_isDone_145 : decode cX5_isDone 145 = .ok (.iastore, 1) := by decide +kernel
theorem dX5_isDone_146 : decode cX5_isDone 146 = .ok (.goto 418, 3) := by decide +kernel
theorem dX5_isDone_149 : decode cX5_isDone 149 = .ok (.aload_n 0, 1) := by decide +kernel
theorem dX5_isDone_150 : decode cX5_isDone 150 = .ok (.getfield 32, 3) := by decide +kernel
theorem dX5_isDone_153 : decode cX5_isDone 153 = .ok (.iload_n 2, 1) := by decide +kernel
theorem dX5_isDone_154 : decode cX5_isDone 154 = .ok (.iload_n 3, 1) := by decide +kernel
theorem dX5_isDone_155 : decode cX5_isDone 155 = .ok (.iadd, 1) := by decide +kernel
theorem dX5_isDone_156 : decode cX5_isDone 156 = .ok (.aload_n 0, 1) := by decide +kernel
theorem dX5_isDone_157 : decode cX5_isDone 157 = .ok (.getfield 32, 3) := by decide +kernel
theorem dX5_isDone_160 : decode cX5_isDone 160 = .ok (.iload_n 2, 1) := by decide +kernel
theorem dX5_isDone_161 : decode cX5_isDone 161 = .ok (.iload_n 3, 1) := by decide +kernel
theorem dX5_isDone_162 : decode cX5_isDone 162 = .ok (.iadd, 1) := by decide +kernel
theorem dX5_isDone_163 : decode cX5_isDone 163 = .ok (.iaload, 1) := by decide +kernel
theorem dX5_isDone_164 : decode cX5_isDone 164 = .ok (.aload_n 0, 1) := by decide +kernel
theorem dX5_isDone_165 : decode cX5_isDone 165 = .ok (.getfield 32, 3) := by decide +kernel
theorem dX5_isDone_168 : decode cX5_isDone 168 = .ok (.iload_n 2, 1) := by decide +kernel
theorem dX5_isDone_169 : decode cX5_isDone 169 = .ok (.iload 4, 2) := by decide +kernel
theorem dX5_isDone_171 : decode cX5_isDone 171 = .ok (.iadd, 1) := by decide +kernel
theorem dX5_isDone_172 : decode cX5_isDone 172 = .ok (.iaload, 1) := by decide +kernel
theorem dX5_isDone_173 : decode cX5_isDone 173 = .ok (.iadd, 1) := by decide +kernel
theorem dX5_isDone_174 : decode cX5_isDone 174 = .ok (.iastore, 1) := by decide +kernel
theorem dX5_isDone_175 : decode cX5_isDone 175 = .ok (.goto 389, 3) := by decide +kernel
theorem dX5_isDone_178 : decode cX5_isDone 178 = .ok (.aload_n 0, 1) := by decide +kernel
theorem dX5_isDone_179 : decode cX5_isDone 179 = .ok (.getfield 32, 3) := by decide +kernel
theorem dX5_isDone_182 : decode cX5_isDone 182 = .ok (.iload_n 2, 1) := by decide +kernel
theorem dX5_isDone_183 : decode cX5_isDone 183 = .ok (.iload_n 3, 1) := by decide +kernel
theorem dX5_isDone_184 : decode cX5_isDone 184 = .ok (.iadd, 1) := by decide +kernel
theorem dX5_isDone_185 : decode cX5_isDone 185 = .ok (.aload_n 0, 1) := by decide +kernel
theorem dX5_isDone_186 : decode cX5_isDone 186 = .ok (.getfield 32, 3) := by decide +kernel
theorem dX5_isDone_189 : decode cX5_isDone 189 = .ok (.iload_n 2, 1) := by decide +kernel
theorem dX5_isDone_190 : decode cX5_isDone 190 = .ok (.iload_n 3, 1) := by decide +kernel
theorem dX5_isDone_191 : decode cX5_isDone 191 = .ok (.iadd, 1) := by decide +kernel
theorem dX5_isDone_192 : decode cX5_isDone 192 = .ok (.iaload, 1) := by decide +kernel
theorem dX5_isDone_193 : decode cX5_isDone 193 = .ok (.aload_n 0, 1) := by decide +kernel
theorem dX5_isDone_194 : decode cX5_isDone 194 = .ok (.getfield 32, 3) := by decide +kernel
theorem dX5_isDone_197 : decode cX5_isDone 197 = .ok (.iload_n 2, 1) := by decide +kernel
theorem dX5_isDone_198 : decode cX5_isDone 198 = .ok (.iload 4, 2) := by decide +kernel
theorem dX5_isDone_200 : decode cX5_isDone 200 = .ok (.iadd, 1) := by decide +kernel
theorem dX5_isDone_201 : decode cX5_isDone 201 = .ok (.iaload, 1) := by decide +kernel
theorem dX5_isDone_202 : decode cX5_isDone 202 = .ok (.isub, 1) := by decide +kernel
theorem dX5_isDone_203 : decode cX5_isDone 203 = .ok (.iastore, 1) := by decide +kernel
theorem dX5_isDone_204 : decode cX5_isDone 204 = .ok (.goto 360, 3) := by decide +kernel
theorem dX5_isDone_207 : decode cX5_isDone 207 = .ok (.aload_n 0, 1) := by decide +kernel
theorem dX5_isDone_208 : decode cX5_isDone 208 = .ok (.getfield 32, 3) := by decide +kernel
theorem dX5_isDone_211 : decode cX5_isDone 211 = .ok (.iload_n 2, 1) := by decide +kernel
theorem dX5_isDone_212 : decode cX5_isDone 212 = .ok (.iload_n 3, 1) := by decide +kernel
theorem dX5_isDone_213 : decode cX5_isDone 213 = .ok (.iadd, 1) := by decide +kernel
theorem dX5_isDone_214 : decode cX5_isDone 214 = .ok (.aload_n 0, 1) := by decide +kernel
theorem dX5_isDone_215 : decode cX5_isDone 215 = .ok (.getfield 32, 3) := by decide +kernel
theorem dX5_isDone_218 : decode cX5_isDone 218 = .ok (.iload_n 2, 1) := by decide +kernel
theorem dX5_isDone_219 : decode cX5_isDone 219 = .ok (.iload_n 3, 1) := by decide +kernel
theorem dX5_isDone_220 : decode cX5_isDone 220 = .ok (.iadd, 1) := by decide +kernel
theorem dX5_isDone_221 : decode cX5_isDone 221 = .ok (.iaload, 1) := by decide +kernel
theorem dX5_isDone_222 : decode cX5_isDone 222 = .ok (.aload_n 0, 1) := by decide +kernel
theorem dX5_isDone_223 : decode cX5_isDone 223 = .ok (.getfield 32, 3) := by decide +kernel
theorem dX5_isDone_226 : decode cX5_isDone 226 = .ok (.iload_n 2, 1) := by decide +kernel
theorem dX5_isDone_227 : decode cX5_isDone 227 = .ok (.iload 4, 2) := by decide +kernel
theorem dX5_isDone_229 : decode cX5_isDone 229 = .ok (.iadd, 1) := by decide +kernel
theorem dX5_isDone_230 : decode cX5_isDone 230 = .ok (.iaload, 1) := by decide +kernel
theorem dX5_isDone_231 : decode cX5_isDone 231 = .ok (.imul, 1) := by decide +kernel
theorem dX5_isDone_232 : decode cX5_isDone 232 = .ok (.iastore, 1) := by decide +kernel
theorem dX5_isDone_233 : decode cX5_isDone 233 = .ok (.goto 331, 3) := by decide +kernel
theorem dX5_isDone_236 : decode cX5_isDone 236 = .ok (.aload_n 0, 1) := by decide +kernel
theorem dX5_isDone_237 : decode cX5_isDone 237 = .ok (.getfield 32, 3) := by decide +kernel
theorem dX5_isDone_240 : decode cX5_isDone 240 = .ok (.iload_n 2, 1) := by decide +kernel
