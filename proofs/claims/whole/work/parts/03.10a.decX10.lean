theorem dX10_in_0 : decode cX10_in 0 = .ok (.lload_n 0, 1) := by decide +kernel
theorem dX10_in_1 : decode cX10_in 1 = .ok (.lload_n 2, 1) := by decide +kernel
theorem dX10_in_2 : decode cX10_in 2 = .ok (.lcmp, 1) := by decide +kernel
theorem dX10_in_3 : decode cX10_in 3 = .ok (.ifCond .lt 14, 3) := by decide +kernel
theorem dX10_in_6 : decode cX10_in 6 = .ok (.lload_n 0, 1) := by decide +kernel
theorem dX10_in_7 : decode cX10_in 7 = .ok (.lload 4, 2) := by decide +kernel
theorem dX10_in_9 : decode cX10_in 9 = .ok (.lcmp, 1) := by decide +kernel
theorem dX10_in_10 : decode cX10_in 10 = .ok (.ifCond .gt 7, 3) := by decide +kernel
theorem dX10_in_13 : decode cX10_in 13 = .ok (.iconst 1, 1) := by decide +kernel
theorem dX10_in_14 : decode cX10_in 14 = .ok (.goto 4, 3) := by decide +kernel
theorem dX10_in_17 : decode cX10_in 17 = .ok (.iconst 0, 1) := by decide +kernel
theorem dX10_in_18 : decode cX10_in 18 = .ok (.ireturn, 1) := by decide +kernel
theorem dX10_init_0 : decode cX10_init 0 = .ok (.aload_n 0, 1) := by decide +kernel
theorem dX10_init_1 : decode cX10_init 1 = .ok (.invokespecial 1, 3) := by decide +kernel
theorem dX10_init_4 : decode cX10_init 4 = .ok (.aload_n 0, 1) := by decide +kernel
theorem dX10_init_5 : decode cX10_init 5 = .ok (.bipush 52, 2) := by decide +kernel
theorem dX10_init_7 : decode cX10_init 7 = .ok (.newarray .int, 2) := by decide +kernel
theorem dX10_init_9 : decode cX10_init 9 = .ok (.putfield 7, 3) := by decide +kernel
theorem dX10_init_12 : decode cX10_init 12 = .ok (.aload_n 0, 1) := by decide +kernel
theorem dX10_init_13 : decode cX10_init 13 = .ok (.bipush 80, 2) := by decide +kernel
theorem dX10_init_15 : decode cX10_init 15 = .ok (.newarray .int, 2) := by decide +kernel
theorem dX10_init_17 : decode cX10_init 17 = .ok (.putfield 13, 3) := by decide +kernel
theorem dX10_init_20 : decode cX10_init 20 = .ok (.aload_n 0, 1) := by decide +kernel
theorem dX10_init_21 : decode cX10_init 21 = .ok (.bipush 52, 2) := by decide +kernel
theorem dX10_init_23 : decode cX10_init 23 = .ok (.newarray .int, 2) := by decide +kernel
theorem dX10_init_25 : decode cX10_init 25 = .ok (.putfield 16, 3) := by decide +kernel
theorem dX10_init_28 : decode cX10_init 28 = .ok (.aload_n 0, 1) := by decide +kernel
theorem dX10_init_29 : decode cX10_init 29 = .ok (.sipush 1248, 3) := by decide +kernel
theorem dX10_init_32 : decode cX10_init 32 = .ok (.newarray .int, 2) := by decide +kernel
theorem dX10_init_34 : decode cX10_init 34 = .ok (.putfield 19, 3) := by decide +kernel
theorem dX10_init_37 : decode cX10_init 37 = .ok (.aload_n 0, 1) := by decide +kernel
theorem dX10_init_38 : decode cX10_init 38 = .ok (.bipush 104, 2) := by decide +kernel
theorem dX10_init_40 : decode cX10_init 40 = .ok (.newarray .int, 2) := by decide +kernel
theorem dX10_init_42 : decode cX10_init 42 = .ok (.putfield 22, 3) := by decide +kernel
theorem dX10_init_45 : decode cX10_init 45 = .ok (.aload_n 0, 1) := by decide +kernel
theorem dX10_init_46 : decode cX10_init 46 = .ok (.bipush 52, 2) := by decide +kernel
theorem dX10_init_48 : decode cX10_init 48 = .ok (.newarray .int, 2) := by decide +kernel
theorem dX10_init_50 : decode cX10_init 50 = .ok (.putfield 25, 3) := by decide +kernel
theorem dX10_init_53 : decode cX10_init 53 = .ok (.aload_n 0, 1) := by decide +kernel
theorem dX10_init_54 : decode cX10_init 54 = .ok (.sipush 16384, 3) := by decide +kernel
theorem dX10_init_57 : decode cX10_init 57 = .ok (.newarray .int, 2) := by decide +kernel
theorem dX10_init_59 : decode cX10_init 59 = .ok (.putfield 28, 3) := by decide +kernel
theorem dX10_init_62 : decode cX10_init 62 = .ok (.aload_n 0, 1) := by decide +kernel
theorem dX10_init_63 : decode cX10_init 63 = .ok (.sipush 16384, 3) := by decide +kernel
theorem dX10_init_66 : decode cX10_init 66 = .ok (.newarray .boolean, 2) := by decide +kernel
theorem dX10_init_68 : decode cX10_init 68 = .ok (.putfield 31, 3) := by decide +kernel
theorem dX10_init_71 : decode cX10_init 71 = .ok (.aload_n 0, 1) := by decide +kernel
theorem dX10_init_72 : decode cX10_init 72 = .ok (.bipush 64, 2) := by decide +kernel
theorem dX10_init_74 : decode cX10_init 74 = .ok (.newarray .int, 2) := by decide +kernel
theorem dX10_init_76 : decode cX10_init 76 = .ok (.putfield 35, 3) := by decide +kernel
theorem dX10_init_79 : decode cX10_init 79 = .ok (.aload_n 0, 1) := by decide +kernel
theorem dX10_init_80 : decode cX10_init 80 = .ok (.sipush 128, 3) := by decide +kernel
theorem dX10_init_83 : decode cX10_init 83 = .ok (.newarray .int, 2) := by decide +kernel
theorem dX10_init_85 : decode cX10_init 85 = .ok (.putfield 38, 3) := by decide +kernel
theorem dX10_init_88 : decode cX10_init 88 = .ok (.aload_n 0, 1) := by decide +kernel
theorem dX10_init_89 : decode cX10_init 89 = .ok (.sipush 729, 3) := by decide +kernel
theorem dX10_init_92 : decode cX10_init 92 = .ok (.newarray .int, 2) := by decide +kernel
theorem dX10_init_94 : decode cX10_init 94 = .ok (.putfield 41, 3) := by decide +kernel
theorem dX10_init_97 : decode cX10_init 97 = .ok (.aload_n 0, 1) := by decide +kernel
theorem dX10_init_98 : decode cX10_init 98 = .ok (.iconst 4, 1) := by decide +kernel
theorem dX10_init_99 : decode cX10_init 99 = .ok (.newarray .int, 2) := by decide +kernel
theorem dX10_init_101 : decode cX10_init 101 = .ok (.putfield 44, 3) := by decide +kernel
theorem dX10_init_104 : decode cX10_init 104 = .ok (.aload_n 0, 1) := by decide +kernel
theorem dX10_init_105 : decode cX10_init 105 = .ok (.iconst 4, 1) := by decide +kernel
theorem dX10_init_106 : decode cX10_init 106 = .ok (.newarray .int, 2) := by decide +kernel
theorem dX10_init_108 : decode cX10_init 108 = .ok (.putfield 47, 3) := by decide +kernel
theorem dX10_init_111 : decode cX10_init 111 = .ok (.aload_n 0, 1) := by decide +kernel
theorem dX10_init_112 : decode cX10_init 112 = .ok (.bipush 96, 2) := by decide +kernel
theorem dX10_init_114 : decode cX10_init 114 = .ok (.newarray .long, 2) := by decide +kernel
theorem dX10_init_116 : decode cX10_init 116 = .ok (.putfield 50, 3) := by decide +kernel
theorem dX10_init_119 : decode cX10_init 119 = .ok (.aload_n 0, 1) := by decide +kernel
theorem dX10_init_120 : decode cX10_init 120 = .ok (.bipush 24, 2) := by decide +kernel
theorem dX10_init_122 : decode cX10_init 122 = .ok (.newarray .long, 2) := by decide +kernel
theorem dX10_init_124 : decode cX10_init 124 = .ok (.putfield 54, 3) := by decide +kernel
theorem dX10_init_127 : decode cX10_init 127 = .ok (.aload_n 0, 1) := by decide +kernel
theorem dX10_init_128 : decode cX10_init 128 = .ok (.sipush 1056, 3) := by decide +kernel
theorem dX10_init_131 : decode cX10_init 131 = .ok (.newarray .int, 2) := by decide +kernel
theorem dX10_init_133 : decode cX10_init 133 = .ok (.putfield 57, 3) := by decide +kernel
theorem dX10_init_136 : decode cX10_init 136 = .ok (.aload_n 0, 1) := by decide +kernel
theorem dX10_init_137 : decode cX10_init 137 = .ok (.bipush 20, 2) := by decide +kernel
theorem dX10_init_139 : decode cX10_init 139 = .ok (.newarray .int, 2) := by decide +kernel
theorem dX10_init_141 : decode cX10_init 141 = .ok (.putfield 60, 3) := by decide +kernel
theorem dX10_init_144 : decode cX10_init 144 = .ok (.aload_n 0, 1) := by decide +kernel
theorem dX10_init_145 : decode cX10_init 145 = .ok (.bipush 20, 2) := by decide +kernel
theorem dX10_init_147 : decode cX10_init 147 = .ok (.newarray .int, 2) := by decide +kernel
theorem dX10_init_149 : decode cX10_init 149 = .ok (.putfield 63, 3) := by decide +kernel
theorem dX10_init_152 : decode cX10_init 152 = .ok (.aload_n 0, 1) := by decide +kernel
theorem dX10_init_153 : decode cX10_init 153 = .ok (.iconst 5, 1) := by decide +kernel
theorem dX10_init_154 : decode cX10_init 154 = .ok (.newarray .int, 2) := by decide +kernel
theorem dX10_init_156 : decode cX10_init 156 = .ok (.putfield 66, 3) := by decide +kernel
theorem dX10_init_159 : decode cX10_init 159 = .ok (.aload_n 0, 1) := by decide +kernel
theorem dX10_init_160 : decode cX10_init 160 = .ok (.bipush 8, 2) := by decide +kernel
theorem dX10_init_162 : decode cX10_init 162 = .ok (.newarray .int, 2) := by decide +kernel
theorem dX10_init_164 : decode cX10_init 164 = .ok (.putfield 69, 3) := by decide +kernel
theorem dX10_init_167 : decode cX10_init 167 = .ok (.aload_n 0, 1) := by decide +kernel
theorem dX10_init_168 : decode cX10_init 168 = .ok (.bipush 9, 2) := by decide +kernel
theorem dX10_init_170 : decode cX10_init 170 = .ok (.newarray .int, 2) := by decide +kernel
theorem dX10_init_172 : decode cX10_init 172 = .ok (.putfield 72, 3) := by decide +kernel
theorem dX10_init_175 : decode cX10_init 175 = .ok (.iconst 0, 1) := by decide +kernel
theorem dX10_init_176 : decode cX10_init 176 = .ok (.istore_n 1, 1) := by decide +kernel
theorem dX10_init_177 : decode cX10_init 177 = .ok (.iload_n 1, 1) := by decide +kernel
theorem dX10_init_178 : decode cX10_init 178 = .ok (.iconst 4, 1) := by decide +kernel
theorem dX10_init_179 : decode cX10_init 179 = .ok (.if_icmp .ge 16, 3) := by decide +kernel
theorem dX10_init_182 : decode cX10_init 182 = .ok (.aload_n 0, 1) := by decide +kernel
theorem dX10_init_183 : decode cX10_init 183 = .ok (.getfield 44, 3) := by decide +kernel
theorem dX10_init_186 : decode cX10_init 186 = .ok (.iload_n 1, 1) := by decide +kernel
theorem dX10_init_187 : decode cX10_init 187 = .ok (.iconst (-1), 1) := by decide +kernel
theorem dX10_init_188 : decode cX10_init 188 = .ok (.iastore, 1) := by decide +kernel
theorem dX10_init_189 : decode cX10_init 189 = .ok (.iinc 1 1, 3) := by decide +kernel
theorem dX10_init_192 : decode cX10_init 192 = .ok (.goto (-15), 3) := by decide +kernel
theorem dX10_init_195 : decode cX10_init 195 = .ok (.return_, 1) := by decide +kernel
theorem dX10_feed_0 : decode cX10_feed 0 = .ok (.iload_n 1, 1) := by decide +kernel
theorem dX10_feed_1 : decode cX10_feed 1 = .ok (.i2l, 1) := by decide +kernel
theorem dX10_feed_2 : decode cX10_feed 2 = .ok (.lconst 0, 1) := by decide +kernel
theorem dX10_feed_3 : decode cX10_feed 3 = .ok (.ldc2_w 75, 3) := by decide +kernel
theorem dX10_feed_6 : decode cX10_feed 6 = .ok (.invokestatic 77, 3) := by decide +kernel
theorem dX10_feed_9 : decode cX10_feed 9 = .ok (.ifCond .ne 5, 3) := by decide +kernel
theorem dX10_feed_12 : decode cX10_feed 12 = .ok (.iconst (-1), 1) := by decide +kernel
theorem dX10_feed_13 : decode cX10_feed 13 = .ok (.ireturn, 1) := by decide +kernel
theorem dX10_feed_14 : decode cX10_feed 14 = .ok (.aload_n 0, 1) := by decide +kernel
theorem dX10_feed_15 : decode cX10_feed 15 = .ok (.getfield 81, 3) := by decide +kernel
theorem dX10_feed_18 : decode cX10_feed 18 = .ok (.bipush 80, 2) := by decide +kernel
theorem dX10_feed_20 : decode cX10_feed 20 = .ok (.if_icmp .ne 6, 3) := by decide +kernel
theorem dX10_feed_23 : decode cX10_feed 23 = .ok (.bipush (-3), 2) := by decide +kernel
theorem dX10_feed_25 : decode cX10_feed 25 = .ok (.ireturn, 1) := by decide +kernel
theorem dX10_feed_26 : decode cX10_feed 26 = .ok (.aload_n 0, 1) := by decide +kernel
theorem dX10_feed_27 : decode cX10_feed 27 = .ok (.getfield 13, 3) := by decide +kernel
theorem dX10_feed_30 : decode cX10_feed 30 = .ok (.aload_n 0, 1) := by decide +kernel
theorem dX10_feed_31 : decode cX10_feed 31 = .ok (.getfield 81, 3) := by decide +kernel
theorem dX10_feed_34 : decode cX10_feed 34 = .ok (.iload_n 1, 1) := by decide +kernel
theorem dX10_feed_35 : decode cX10_feed 35 = .ok (.iastore, 1) := by decide +kernel
theorem dX10_feed_36 : decode cX10_feed 36 = .ok (.aload_n 0, 1) := by decide +kernel
theorem dX10_feed_37 : decode cX10_feed 37 = .ok (.dup, 1) := by decide +kernel
theorem dX10_feed_38 : decode cX10_feed 38 = .ok (.getfield 81, 3) := by decide +kernel
theorem dX10_feed_41 : decode cX10_feed 41 = .ok (.iconst 1, 1) := by decide +kernel
theorem dX10_feed_42 : decode cX10_feed 42 = .ok (.iadd, 1) := by decide +kernel
theorem dX10_feed_43 : decode cX10_feed 43 = .ok (.putfield 81, 3) := by decide +kernel
theorem dX10_feed_46 : decode cX10_feed 46 = .ok (.aload_n 0, 1) := by decide +kernel
theorem dX10_feed_47 : decode cX10_feed 47 = .ok (.getfield 81, 3) := by decide +kernel
theorem dX10_feed_50 : decode cX10_feed 50 = .ok (.ireturn, 1) := by decide +kernel
theorem dX10_here_0 : decode cX10_here 0 = .ok (.aload_n 0, 1) := by decide +kernel
theorem dX10_here_1 : decode cX10_here 1 = .ok (.getfield 85, 3) := by decide +kernel
theorem dX10_here_4 : decode cX10_here 4 = .ok (.aload_n 0, 1) := by decide +kernel
theorem dX10_here_5 : decode cX10_here 5 = .ok (.getfield 81, 3) := by decide +kernel
theorem dX10_here_8 : decode cX10_here 8 = .ok (.if_icmp .ge 15, 3) := by decide +kernel
theorem dX10_here_11 : decode cX10_here 11 = .ok (.aload_n 0, 1) := by decide +kernel
theorem dX10_here_12 : decode cX10_here 12 = .ok (.getfield 13, 3) := by decide +kernel
theorem dX10_here_15 : decode cX10_here 15 = .ok (.aload_n 0, 1) := by decide +kernel
theorem dX10_here_16 : decode cX10_here 16 = .ok (.getfield 85, 3) := by decide +kernel
theorem dX10_here_19 : decode cX10_here 19 = .ok (.iaload, 1) := by decide +kernel
theorem dX10_here_20 : decode cX10_here 20 = .ok (.goto 4, 3) := by decide +kernel
theorem dX10_here_23 : decode cX10_here 23 = .ok (.iconst (-1), 1) := by decide +kernel
theorem dX10_here_24 : decode cX10_here 24 = .ok (.ireturn, 1) := by decide +kernel
theorem dX10_figure_0 : decode cX10_figure 0 = .ok (.aload_n 0, 1) := by decide +kernel
theorem dX10_figure_1 : decode cX10_figure 1 = .ok (.invokevirtual 88, 3) := by decide +kernel
theorem dX10_figure_4 : decode cX10_figure 4 = .ok (.bipush 48, 2) := by decide +kernel
theorem dX10_figure_6 : decode cX10_figure 6 = .ok (.isub, 1) := by decide +kernel
theorem dX10_figure_7 : decode cX10_figure 7 = .ok (.istore_n 3, 1) := by decide +kernel
theorem dX10_figure_8 : decode cX10_figure 8 = .ok (.iload_n 3, 1) := by decide +kernel
theorem dX10_figure_9 : decode cX10_figure 9 = .ok (.i2l, 1) := by decide +kernel
theorem dX10_figure_10 : decode cX10_figure 10 = .ok (.iload_n 1, 1) := by decide +kernel
theorem dX10_figure_11 : decode cX10_figure 11 = .ok (.i2l, 1) := by decide +kernel
theorem dX10_figure_12 : decode cX10_figure 12 = .ok (.iload_n 2, 1) := by decide +kernel
theorem dX10_figure_13 : decode cX10_figure 13 = .ok (.i2l, 1) := by decide +kernel
theorem dX10_figure_14 : decode cX10_figure 14 = .ok (.invokestatic 77, 3) := by decide +kernel
theorem dX10_figure_17 : decode cX10_figure 17 = .ok (.ifCond .ne 5, 3) := by decide +kernel
theorem dX10_figure_20 : decode cX10_figure 20 = .ok (.iconst (-1), 1) := by decide +kernel
theorem dX10_figure_21 : decode cX10_figure 21 = .ok (.ireturn, 1) := by decide +kernel
theorem dX10_figure_22 : decode cX10_figure 22 = .ok (.aload_n 0, 1) := by decide +kernel
theorem dX10_figure_23 : decode cX10_figure 23 = .ok (.dup, 1) := by decide +kernel
theorem dX10_figure_24 : decode cX10_figure 24 = .ok (.getfield 85, 3) := by decide +kernel
theorem dX10_figure_27 : decode cX10_figure 27 = .ok (.iconst 1, 1) := by decide +kernel
theorem dX10_figure_28 : decode cX10_figure 28 = .ok (.iadd, 1) := by decide +kernel
theorem dX10_figure_29 : decode cX10_figure 29 = .ok (.putfield 85, 3) := by decide +kernel
theorem dX10_figure_32 : decode cX10_figure 32 = .ok (.iload_n 3, 1) := by decide +kernel
theorem dX10_figure_33 : decode cX10_figure 33 = .ok (.ireturn, 1) := by decide +kernel
theorem dX10_has_0 : decode cX10_has 0 = .ok (.aload_n 0, 1) := by decide +kernel
theorem dX10_has_1 : decode cX10_has 1 = .ok (.invokevirtual 88, 3) := by decide +kernel
theorem dX10_has_4 : decode cX10_has 4 = .ok (.iload_n 1, 1) := by decide +kernel
theorem dX10_has_5 : decode cX10_has 5 = .ok (.if_icmp .eq 5, 3) := by decide +kernel
theorem dX10_has_8 : decode cX10_has 8 = .ok (.iconst 0, 1) := by decide +kernel
theorem dX10_has_9 : decode cX10_has 9 = .ok (.ireturn, 1) := by decide +kernel
theorem dX10_has_10 : decode cX10_has 10 = .ok (.aload_n 0, 1) := by decide +kernel
theorem dX10_has_11 : decode cX10_has 11 = .ok (.dup, 1) := by decide +kernel
theorem dX10_has_12 : decode cX10_has 12 = .ok (.getfield 85, 3) := by decide +kernel
theorem dX10_has_15 : decode cX10_has 15 = .ok (.iconst 1, 1) := by decide +kernel
theorem dX10_has_16 : decode cX10_has 16 = .ok (.iadd, 1) := by decide +kernel
theorem dX10_has_17 : decode cX10_has 17 = .ok (.putfield 85, 3) := by decide +kernel
theorem dX10_has_20 : decode cX10_has 20 = .ok (.iconst 1, 1) := by decide +kernel
theorem dX10_has_21 : decode cX10_has 21 = .ok (.ireturn, 1) := by decide +kernel
theorem dX10_kindBy_0 : decode cX10_kindBy 0 = .ok (.iload_n 0, 1) := by decide +kernel
theorem dX10_kindBy_1 : decode cX10_kindBy 1 = .ok (.bipush 112, 2) := by decide +kernel
theorem dX10_kindBy_3 : decode cX10_kindBy 3 = .ok (.if_icmp .ne 7, 3) := by decide +kernel
theorem dX10_kindBy_6 : decode cX10_kindBy 6 = .ok (.iconst 1, 1) := by decide +kernel
theorem dX10_kindBy_7 : decode cX10_kindBy 7 = .ok (.goto 44, 3) := by decide +kernel
theorem dX10_kindBy_10 : decode cX10_kindBy 10 = .ok (.iload_n 0, 1) := by decide +kernel
theorem dX10_kindBy_11 : decode cX10_kindBy 11 = .ok (.bipush 103, 2) := by decide +kernel
theorem dX10_kindBy_13 : decode cX10_kindBy 13 = .ok (.if_icmp .ne 7, 3) := by decide +kernel
theorem dX10_kindBy_16 : decode cX10_kindBy 16 = .ok (.iconst 2, 1) := by decide +kernel
theorem dX10_kindBy_17 : decode cX10_kindBy 17 = .ok (.goto 34, 3) := by decide +kernel
theorem dX10_kindBy_20 : decode cX10_kindBy 20 = .ok (.iload_n 0, 1) := by decide +kernel
theorem dX10_kindBy_21 : decode cX10_kindBy 21 = .ok (.bipush 116, 2) := by decide +kernel
theorem dX10_kindBy_23 : decode cX10_kindBy 23 = .ok (.if_icmp .ne 7, 3) := by decide +kernel
theorem dX10_kindBy_26 : decode cX10_kindBy 26 = .ok (.iconst 3, 1) := by decide +kernel
theorem dX10_kindBy_27 : decode cX10_kindBy 27 = .ok (.goto 24, 3) := by decide +kernel
theorem dX10_kindBy_30 : decode cX10_kindBy 30 = .ok (.iload_n 0, 1) := by decide +kernel
theorem dX10_kindBy_31 : decode cX10_kindBy 31 = .ok (.bipush 115, 2) := by decide +kernel
theorem dX10_kindBy_33 : decode cX10_kindBy 33 = .ok (.if_icmp .ne 7, 3) := by decide +kernel
theorem dX10_kindBy_36 : decode cX10_kindBy 36 = .ok (.iconst 4, 1) := by decide +kernel
theorem dX10_kindBy_37 : decode cX10_kindBy 37 = .ok (.goto 14, 3) := by decide +kernel
theorem dX10_kindBy_40 : decode cX10_kindBy 40 = .ok (.iload_n 0, 1) := by decide +kernel
theorem dX10_kindBy_41 : decode cX10_kindBy 41 = .ok (.bipush 98, 2) := by decide +kernel
theorem dX10_kindBy_43 : decode cX10_kindBy 43 = .ok (.if_icmp .ne 7, 3) := by decide +kernel
theorem dX10_kindBy_46 : decode cX10_kindBy 46 = .ok (.iconst 5, 1) := by decide +kernel
theorem dX10_kindBy_47 : decode cX10_kindBy 47 = .ok (.goto 4, 3) := by decide +kernel
theorem dX10_kindBy_50 : decode cX10_kindBy 50 = .ok (.iconst 0, 1) := by decide +kernel
theorem dX10_kindBy_51 : decode cX10_kindBy 51 = .ok (.ireturn, 1) := by decide +kernel
theorem dX10_readsPictures_0 : decode cX10_readsPictures 0 = .ok (.iconst 0, 1) := by decide +kernel
theorem dX10_readsPictures_1 : decode cX10_readsPictures 1 = .ok (.istore_n 1, 1) := by decide +kernel
theorem dX10_readsPictures_2 : decode cX10_readsPictures 2 = .ok (.iload_n 1, 1) := by decide +kernel
theorem dX10_readsPictures_3 : decode cX10_readsPictures 3 = .ok (.bipush 8, 2) := by decide +kernel
theorem dX10_readsPictures_5 : decode cX10_readsPictures 5 = .ok (.if_icmp .ge 13, 3) := by decide +kernel
theorem dX10_readsPictures_8 : decode cX10_readsPictures 8 = .ok (.aload_n 0, 1) := by decide +kernel
theorem dX10_readsPictures_9 : decode cX10_readsPictures 9 = .ok (.invokevirtual 88, 3) := by decide +kernel
theorem dX10_readsPictures_12 : decode cX10_readsPictures 12 = .ok (.invokestatic 92, 3) := by decide +kernel
theorem dX10_readsPictures_15 : decode cX10_readsPictures 15 = .ok (.goto 4, 3) := by decide +kernel
theorem dX10_readsPictures_18 : decode cX10_readsPictures 18 = .ok (.iconst 0, 1) := by decide +kernel
theorem dX10_readsPictures_19 : decode cX10_readsPictures 19 = .ok (.istore_n 2, 1) := by decide +kernel
theorem dX10_readsPictures_20 : decode cX10_readsPictures 20 = .ok (.iload_n 2, 1) := by decide +kernel
theorem dX10_readsPictures_21 : decode cX10_readsPictures 21 = .ok (.ifCond .ne 5, 3) := by decide +kernel
theorem dX10_readsPictures_24 : decode cX10_readsPictures 24 = .ok (.iconst 0, 1) := by decide +kernel
theorem dX10_readsPictures_25 : decode cX10_readsPictures 25 = .ok (.ireturn, 1) := by decide +kernel
theorem dX10_readsPictures_26 : decode cX10_readsPictures 26 = .ok (.aload_n 0, 1) := by decide +kernel
theorem dX10_readsPictures_27 : decode cX10_readsPictures 27 = .ok (.dup, 1) := by decide +kernel
theorem dX10_readsPictures_28 : decode cX10_readsPictures 28 = .ok (.getfield 85, 3) := by decide +kernel
theorem dX10_readsPictures_31 : decode cX10_readsPictures 31 = .ok (.iconst 1, 1) := by decide +kernel
theorem dX10_readsPictures_32 : decode cX10_readsPictures 32 = .ok (.iadd, 1) := by decide +kernel
theorem dX10_readsPictures_33 : decode cX10_readsPictures 33 = .ok (.putfield 85, 3) := by decide +kernel
theorem dX10_readsPictures_36 : decode cX10_readsPictures 36 = .ok (.aload_n 0, 1) := by decide +kernel
theorem dX10_readsPictures_37 : decode cX10_readsPictures 37 = .ok (.getfield 16, 3) := by decide +kernel
theorem dX10_readsPictures_40 : decode cX10_readsPictures 40 = .ok (.iconst 4, 1) := by decide +kernel
theorem dX10_readsPictures_41 : decode cX10_readsPictures 41 = .ok (.iload_n 1, 1) := by decide +kernel
theorem dX10_readsPictures_42 : decode cX10_readsPictures 42 = .ok (.iadd, 1) := by decide +kernel
theorem dX10_readsPictures_43 : decode cX10_readsPictures 43 = .ok (.iload_n 2, 1) := by decide +kernel
theorem dX10_readsPictures_44 : decode cX10_readsPictures 44 = .ok (.iastore, 1) := by decide +kernel
theorem dX10_readsPictures_45 : decode cX10_readsPictures 45 = .ok (.aload_n 0, 1) := by decide +kernel
theorem dX10_readsPictures_46 : decode cX10_readsPictures 46 = .ok (.getfield 16, 3) := by decide +kernel
theorem dX10_readsPictures_49 : decode cX10_readsPictures 49 = .ok (.bipush 12, 2) := by decide +kernel
theorem dX10_readsPictures_51 : decode cX10_readsPictures 51 = .ok (.iload_n 1, 1) := by decide +kernel
theorem dX10_readsPictures_52 : decode cX10_readsPictures 52 = .ok (.iadd, 1) := by decide +kernel
theorem dX10_readsPictures_53 : decode cX10_readsPictures 53 = .ok (.aload_n 0, 1) := by decide +kernel
theorem dX10_readsPictures_54 : decode cX10_readsPictures 54 = .ok (.iconst 0, 1) := by decide +kernel
theorem dX10_readsPictures_55 : decode cX10_readsPictures 55 = .ok (.bipush 9, 2) := by decide +kernel
theorem dX10_readsPictures_57 : decode cX10_readsPictures 57 = .ok (.invokevirtual 96, 3) := by decide +kernel
theorem dX10_readsPictures_60 : decode cX10_readsPictures 60 = .ok (.iastore, 1) := by decide +kernel
theorem dX10_readsPictures_61 : decode cX10_readsPictures 61 = .ok (.aload_n 0, 1) := by decide +kernel
theorem dX10_readsPictures_62 : decode cX10_readsPictures 62 = .ok (.getfield 16, 3) := by decide +kernel
theorem dX10_readsPictures_65 : decode cX10_readsPictures 65 = .ok (.bipush 12, 2) := by decide +kernel
theorem dX10_readsPictures_67 : decode cX10_readsPictures 67 = .ok (.iload_n 1, 1) := by decide +kernel
theorem dX10_readsPictures_68 : decode cX10_readsPictures 68 = .ok (.iadd, 1) := by decide +kernel
theorem dX10_readsPictures_69 : decode cX10_readsPictures 69 = .ok (.iaload, 1) := by decide +kernel
theorem dX10_readsPictures_70 : decode cX10_readsPictures 70 = .ok (.ifCond .ge 5, 3) := by decide +kernel
theorem dX10_readsPictures_73 : decode cX10_readsPictures 73 = .ok (.iconst 0, 1) := by decide +kernel
theorem dX10_readsPictures_74 : decode cX10_readsPictures 74 = .ok (.ireturn, 1) := by decide +kernel
theorem dX10_readsPictures_75 : decode cX10_readsPictures 75 = .ok (.aload_n 0, 1) := by decide +kernel
theorem dX10_readsPictures_76 : decode cX10_readsPictures 76 = .ok (.getfield 16, 3) := by decide +kernel
theorem dX10_readsPictures_79 : decode cX10_readsPictures 79 = .ok (.bipush 20, 2) := by decide +kernel
theorem dX10_readsPictures_81 : decode cX10_readsPictures 81 = .ok (.iload_n 1, 1) := by decide +kernel
theorem dX10_readsPictures_82 : decode cX10_readsPictures 82 = .ok (.iadd, 1) := by decide +kernel
theorem dX10_readsPictures_83 : decode cX10_readsPictures 83 = .ok (.aload_n 0, 1) := by decide +kernel
theorem dX10_readsPictures_84 : decode cX10_readsPictures 84 = .ok (.iconst 1, 1) := by decide +kernel
theorem dX10_readsPictures_85 : decode cX10_readsPictures 85 = .ok (.bipush 9, 2) := by decide +kernel
theorem dX10_readsPictures_87 : decode cX10_readsPictures 87 = .ok (.invokevirtual 96, 3) := by decide +kernel
theorem dX10_readsPictures_90 : decode cX10_readsPictures 90 = .ok (.iastore, 1) := by decide +kernel
theorem dX10_readsPictures_91 : decode cX10_readsPictures 91 = .ok (.aload_n 0, 1) := by decide +kernel
theorem dX10_readsPictures_92 : decode cX10_readsPictures 92 = .ok (.getfield 16, 3) := by decide +kernel
theorem dX10_readsPictures_95 : decode cX10_readsPictures 95 = .ok (.bipush 20, 2) := by decide +kernel
theorem dX10_readsPictures_97 : decode cX10_readsPictures 97 = .ok (.iload_n 1, 1) := by decide +kernel
theorem dX10_readsPictures_98 : decode cX10_readsPictures 98 = .ok (.iadd, 1) := by decide +kernel
theorem dX10_readsPictures_99 : decode cX10_readsPictures 99 = .ok (.iaload, 1) := by decide +kernel
theorem dX10_readsPictures_100 : decode cX10_readsPictures 100 = .ok (.ifCond .ge 5, 3) := by decide +kernel
theorem dX10_readsPictures_103 : decode cX10_readsPictures 103 = .ok (.iconst 0, 1) := by decide +kernel
theorem dX10_readsPictures_104 : decode cX10_readsPictures 104 = .ok (.ireturn, 1) := by decide +kernel
theorem dX10_readsPictures_105 : decode cX10_readsPictures 105 = .ok (.iinc 1 1, 3) := by decide +kernel
theorem dX10_readsPictures_108 : decode cX10_readsPictures 108 = .ok (.iload_n 1, 1) := by decide +kernel
theorem dX10_readsPictures_109 : decode cX10_readsPictures 109 = .ok (.bipush 8, 2) := by decide +kernel
theorem dX10_readsPictures_111 : decode cX10_readsPictures 111 = .ok (.if_icmp .ge 12, 3) := by decide +kernel
theorem dX10_readsPictures_114 : decode cX10_readsPictures 114 = .ok (.aload_n 0, 1) := by decide +kernel
theorem dX10_readsPictures_115 : decode cX10_readsPictures 115 = .ok (.bipush 44, 2) := by decide +kernel
theorem dX10_readsPictures_117 : decode cX10_readsPictures 117 = .ok (.invokevirtual 100, 3) := by decide +kernel
theorem dX10_readsPictures_120 : decode cX10_readsPictures 120 = .ok (.ifCond .ne (-118), 3) := by decide +kernel
theorem dX10_readsPictures_123 : decode cX10_readsPictures 123 = .ok (.aload_n 0, 1) := by decide +kernel
theorem dX10_readsPictures_124 : decode cX10_readsPictures 124 = .ok (.getfield 16, 3) := by decide +kernel
theorem dX10_readsPictures_127 : decode cX10_readsPictures 127 = .ok (.iconst 0, 1) := by decide +kernel
theorem dX10_readsPictures_128 : decode cX10_readsPictures 128 = .ok (.iload_n 1, 1) := by decide +kernel
theorem dX10_readsPictures_129 : decode cX10_readsPictures 129 = .ok (.iastore, 1) := by decide +kernel
theorem dX10_readsPictures_130 : decode cX10_readsPictures 130 = .ok (.iload_n 1, 1) := by decide +kernel
theorem dX10_readsPictures_131 : decode cX10_readsPictures 131 = .ok (.iconst 2, 1) := by decide +kernel
theorem dX10_readsPictures_132 : decode cX10_readsPictures 132 = .ok (.if_icmp .le 16, 3) := by decide +kernel
theorem dX10_readsPictures_135 : decode cX10_readsPictures 135 = .ok (.aload_n 0, 1) := by decide +kernel
theorem dX10_readsPictures_136 : decode cX10_readsPictures 136 = .ok (.bipush 59, 2) := by decide +kernel
theorem dX10_readsPictures_138 : decode cX10_readsPictures 138 = .ok (.invokevirtual 100, 3) := by decide +kernel
theorem dX10_readsPictures_141 : decode cX10_readsPictures 141 = .ok (.ifCond .eq 7, 3) := by decide +kernel
theorem dX10_readsPictures_144 : decode cX10_readsPictures 144 = .ok (.iconst 1, 1) := by decide +kernel
theorem dX10_readsPictures_145 : decode cX10_readsPictures 145 = .ok (.goto 4, 3) := by decide +kernel
theorem dX10_readsPictures_148 : decode cX10_readsPictures 148 = .ok (.iconst 0, 1) := by decide +kernel
theorem dX10_readsPictures_149 : decode cX10_readsPictures 149 = .ok (.ireturn, 1) := by decide +kernel
theorem dX10_isBetween_0 : decode cX10_isBetween 0 = .ok (.iload_n 0, 1) := by decide +kernel
theorem dX10_isBetween_1 : decode cX10_isBetween 1 = .ok (.iload_n 1, 1) := by decide +kernel
theorem dX10_isBetween_2 : decode cX10_isBetween 2 = .ok (.if_icmp .eq 24, 3) := by decide +kernel
theorem dX10_isBetween_5 : decode cX10_isBetween 5 = .ok (.iload_n 0, 1) := by decide +kernel
theorem dX10_isBetween_6 : decode cX10_isBetween 6 = .ok (.iload_n 1, 1) := by decide +kernel
theorem dX10_isBetween_7 : decode cX10_isBetween 7 = .ok (.isub, 1) := by decide +kernel
theorem dX10_isBetween_8 : decode cX10_isBetween 8 = .ok (.iload_n 3, 1) := by decide +kernel
theorem dX10_isBetween_9 : decode cX10_isBetween 9 = .ok (.iadd, 1) := by decide +kernel
theorem dX10_isBetween_10 : decode cX10_isBetween 10 = .ok (.iload_n 3, 1) := by decide +kernel
theorem dX10_isBetween_11 : decode cX10_isBetween 11 = .ok (.irem, 1) := by decide +kernel
theorem dX10_isBetween_12 : decode cX10_isBetween 12 = .ok (.iload_n 2, 1) := by decide +kernel
theorem dX10_isBetween_13 : decode cX10_isBetween 13 = .ok (.iload_n 1, 1) := by decide +kernel
theorem dX10_isBetween_14 : decode cX10_isBetween 14 = .ok (.isub, 1) := by decide +kernel
theorem dX10_isBetween_15 : decode cX10_isBetween 15 = .ok (.iload_n 3, 1) := by decide +kernel
theorem dX10_isBetween_16 : decode cX10_isBetween 16 = .ok (.iadd, 1) := by decide +kernel
theorem dX10_isBetween_17 : decode cX10_isBetween 17 = .ok (.iload_n 3, 1) := by decide +kernel
theorem dX10_isBetween_18 : decode cX10_isBetween 18 = .ok (.irem, 1) := by decide +kernel
theorem dX10_isBetween_19 : decode cX10_isBetween 19 = .ok (.if_icmp .ge 7, 3) := by decide +kernel
theorem dX10_isBetween_22 : decode cX10_isBetween 22 = .ok (.iconst 1, 1) := by decide +kernel
theorem dX10_isBetween_23 : decode cX10_isBetween 23 = .ok (.goto 4, 3) := by decide +kernel
theorem dX10_isBetween_26 : decode cX10_isBetween 26 = .ok (.iconst 0, 1) := by decide +kernel
theorem dX10_isBetween_27 : decode cX10_isBetween 27 = .ok (.ireturn, 1) := by decide +kernel
theorem dX10_joins_0 : decode cX10_joins 0 = .ok (.iload_n 3, 1) := by decide +kernel
theorem dX10_joins_1 : decode cX10_joins 1 = .ok (.iload 4, 2) := by decide +kernel
theorem dX10_joins_3 : decode cX10_joins 3 = .ok (.if_icmp .eq 20, 3) := by decide +kernel
theorem dX10_joins_6 : decode cX10_joins 6 = .ok (.aload_n 0, 1) := by decide +kernel
theorem dX10_joins_7 : decode cX10_joins 7 = .ok (.iload_n 1, 1) := by decide +kernel
theorem dX10_joins_8 : decode cX10_joins 8 = .ok (.iload_n 3, 1) := by decide +kernel
theorem dX10_joins_9 : decode cX10_joins 9 = .ok (.iadd, 1) := by decide +kernel
theorem dX10_joins_10 : decode cX10_joins 10 = .ok (.iaload, 1) := by decide +kernel
theorem dX10_joins_11 : decode cX10_joins 11 = .ok (.iload 4, 2) := by decide +kernel
theorem dX10_joins_13 : decode cX10_joins 13 = .ok (.ishr, 1) := by decide +kernel
theorem dX10_joins_14 : decode cX10_joins 14 = .ok (.iconst 1, 1) := by decide +kernel
theorem dX10_joins_15 : decode cX10_joins 15 = .ok (.iand, 1) := by decide +kernel
theorem dX10_joins_16 : decode cX10_joins 16 = .ok (.ifCond .ne 7, 3) := by decide +kernel
theorem dX10_joins_19 : decode cX10_joins 19 = .ok (.iconst 1, 1) := by decide +kernel
theorem dX10_joins_20 : decode cX10_joins 20 = .ok (.goto 4, 3) := by decide +kernel
theorem dX10_joins_23 : decode cX10_joins 23 = .ok (.iconst 0, 1) := by decide +kernel
theorem dX10_joins_24 : decode cX10_joins 24 = .ok (.istore 5, 2) := by decide +kernel
theorem dX10_joins_26 : decode cX10_joins 26 = .ok (.iconst 0, 1) := by decide +kernel
theorem dX10_joins_27 : decode cX10_joins 27 = .ok (.istore 6, 2) := by decide +kernel
theorem dX10_joins_29 : decode cX10_joins 29 = .ok (.iload 6, 2) := by decide +kernel
theorem dX10_joins_31 : decode cX10_joins 31 = .ok (.iload_n 2, 1) := by decide +kernel
theorem dX10_joins_32 : decode cX10_joins 32 = .ok (.if_icmp .ge 91, 3) := by decide +kernel
theorem dX10_joins_35 : decode cX10_joins 35 = .ok (.iload 5, 2) := by decide +kernel
theorem dX10_joins_37 : decode cX10_joins 37 = .ok (.ifCond .eq 86, 3) := by decide +kernel
theorem dX10_joins_40 : decode cX10_joins 40 = .ok (.iconst 0, 1) := by decide +kernel
theorem dX10_joins_41 : decode cX10_joins 41 = .ok (.istore 7, 2) := by decide +kernel
theorem dX10_joins_43 : decode cX10_joins 43 = .ok (.iload 7, 2) := by decide +kernel
theorem dX10_joins_45 : decode cX10_joins 45 = .ok (.iload_n 2, 1) := by decide +kernel
theorem dX10_joins_46 : decode cX10_joins 46 = .ok (.if_icmp .ge 71, 3) := by decide +kernel
theorem dX10_joins_49 : decode cX10_joins 49 = .ok (.iload 5, 2) := by decide +kernel
theorem dX10_joins_51 : decode cX10_joins 51 = .ok (.ifCond .eq 66, 3) := by decide +kernel
theorem dX10_joins_54 : decode cX10_joins 54 = .ok (.iload 6, 2) := by decide +kernel
theorem dX10_joins_56 : decode cX10_joins 56 = .ok (.iload_n 3, 1) := by decide +kernel
theorem dX10_joins_57 : decode cX10_joins 57 = .ok (.iload 4, 2) := by decide +kernel
theorem dX10_joins_59 : decode cX10_joins 59 = .ok (.iload_n 2, 1) := by decide +kernel
theorem dX10_joins_60 : decode cX10_joins 60 = .ok (.invokestatic 104, 3) := by decide +kernel
theorem dX10_joins_63 : decode cX10_joins 63 = .ok (.ifCond .eq 19, 3) := by decide +kernel
theorem dX10_joins_66 : decode cX10_joins 66 = .ok (.iload 7, 2) := by decide +kernel
theorem dX10_joins_68 : decode cX10_joins 68 = .ok (.iload 4, 2) := by decide +kernel
theorem dX10_joins_70 : decode cX10_joins 70 = .ok (.iload_n 3, 1) := by decide +kernel
theorem dX10_joins_71 : decode cX10_joins 71 = .ok (.iload_n 2, 1) := by decide +kernel
theorem dX10_joins_72 : decode cX10_joins 72 = .ok (.invokestatic 104, 3) := by decide +kernel
theorem dX10_joins_75 : decode cX10_joins 75 = .ok (.ifCond .eq 7, 3) := by decide +kernel
theorem dX10_joins_78 : decode cX10_joins 78 = .ok (.iconst 1, 1) := by decide +kernel
theorem dX10_joins_79 : decode cX10_joins 79 = .ok (.goto 4, 3) := by decide +kernel
theorem dX10_joins_82 : decode cX10_joins 82 = .ok (.iconst 0, 1) := by decide +kernel
theorem dX10_joins_83 : decode cX10_joins 83 = .ok (.istore 8, 2) := by decide +kernel
theorem dX10_joins_85 : decode cX10_joins 85 = .ok (.iload 8, 2) := by decide +kernel
theorem dX10_joins_87 : decode cX10_joins 87 = .ok (.ifCond .eq 17, 3) := by decide +kernel
theorem dX10_joins_90 : decode cX10_joins 90 = .ok (.aload_n 0, 1) := by decide +kernel
theorem dX10_joins_91 : decode cX10_joins 91 = .ok (.iload_n 1, 1) := by decide +kernel
theorem dX10_joins_92 : decode cX10_joins 92 = .ok (.iload 6, 2) := by decide +kernel
theorem dX10_joins_94 : decode cX10_joins 94 = .ok (.iadd, 1) := by decide +kernel
theorem dX10_joins_95 : decode cX10_joins 95 = .ok (.iaload, 1) := by decide +kernel
theorem dX10_joins_96 : decode cX10_joins 96 = .ok (.iload 7, 2) := by decide +kernel
theorem dX10_joins_98 : decode cX10_joins 98 = .ok (.ishr, 1) := by decide +kernel
theorem dX10_joins_99 : decode cX10_joins 99 = .ok (.iconst 1, 1) := by decide +kernel
theorem dX10_joins_100 : decode cX10_joins 100 = .ok (.iand, 1) := by decide +kernel
theorem dX10_joins_101 : decode cX10_joins 101 = .ok (.ifCond .ne 7, 3) := by decide +kernel
theorem dX10_joins_104 : decode cX10_joins 104 = .ok (.iconst 1, 1) := by decide +kernel
theorem dX10_joins_105 : decode cX10_joins 105 = .ok (.goto 4, 3) := by decide +kernel
theorem dX10_joins_108 : decode cX10_joins 108 = .ok (.iconst 0, 1) := by decide +kernel
theorem dX10_joins_109 : decode cX10_joins 109 = .ok (.istore 5, 2) := by decide +kernel
theorem dX10_joins_111 : decode cX10_joins 111 = .ok (.iinc 7 1, 3) := by decide +kernel
theorem dX10_joins_114 : decode cX10_joins 114 = .ok (.goto (-71), 3) := by decide +kernel
theorem dX10_joins_117 : decode cX10_joins 117 = .ok (.iinc 6 1, 3) := by decide +kernel
theorem dX10_joins_120 : decode cX10_joins 120 = .ok (.goto (-91), 3) := by decide +kernel
theorem dX10_joins_123 : decode cX10_joins 123 = .ok (.iload 5, 2) := by decide +kernel
theorem dX10_joins_125 : decode cX10_joins 125 = .ok (.ireturn, 1) := by decide +kernel
theorem dX10_links_0 : decode cX10_links 0 = .ok (.aload_n 0, 1) := by decide +kernel
theorem dX10_links_1 : decode cX10_links 1 = .ok (.iload_n 1, 1) := by decide +kernel
theorem dX10_links_2 : decode cX10_links 2 = .ok (.iload_n 2, 1) := by decide +kernel
theorem dX10_links_3 : decode cX10_links 3 = .ok (.iadd, 1) := by decide +kernel
theorem dX10_links_4 : decode cX10_links 4 = .ok (.dup2, 1) := by decide +kernel
theorem dX10_links_5 : decode cX10_links 5 = .ok (.iaload, 1) := by decide +kernel
theorem dX10_links_6 : decode cX10_links 6 = .ok (.iconst 1, 1) := by decide +kernel
theorem dX10_links_7 : decode cX10_links 7 = .ok (.iload_n 3, 1) := by decide +kernel
theorem dX10_links_8 : decode cX10_links 8 = .ok (.ishl, 1) := by decide +kernel
theorem dX10_links_9 : decode cX10_links 9 = .ok (.ior, 1) := by decide +kernel
theorem dX10_links_10 : decode cX10_links 10 = .ok (.iastore, 1) := by decide +kernel
theorem dX10_links_11 : decode cX10_links 11 = .ok (.aload_n 0, 1) := by decide +kernel
theorem dX10_links_12 : decode cX10_links 12 = .ok (.iload_n 1, 1) := by decide +kernel
theorem dX10_links_13 : decode cX10_links 13 = .ok (.iload_n 3, 1) := by decide +kernel
theorem dX10_links_14 : decode cX10_links 14 = .ok (.iadd, 1) := by decide +kernel
theorem dX10_links_15 : decode cX10_links 15 = .ok (.dup2, 1) := by decide +kernel
theorem dX10_links_16 : decode cX10_links 16 = .ok (.iaload, 1) := by decide +kernel
theorem dX10_links_17 : decode cX10_links 17 = .ok (.iconst 1, 1) := by decide +kernel
theorem dX10_links_18 : decode cX10_links 18 = .ok (.iload_n 2, 1) := by decide +kernel
theorem dX10_links_19 : decode cX10_links 19 = .ok (.ishl, 1) := by decide +kernel
theorem dX10_links_20 : decode cX10_links 20 = .ok (.ior, 1) := by decide +kernel
theorem dX10_links_21 : decode cX10_links 21 = .ok (.iastore, 1) := by decide +kernel
theorem dX10_links_22 : decode cX10_links 22 = .ok (.return_, 1) := by decide +kernel
theorem dX10_ring_0 : decode cX10_ring 0 = .ok (.iconst 0, 1) := by decide +kernel
theorem dX10_ring_1 : decode cX10_ring 1 = .ok (.istore_n 3, 1) := by decide +kernel
theorem dX10_ring_2 : decode cX10_ring 2 = .ok (.iload_n 3, 1) := by decide +kernel
theorem dX10_ring_3 : decode cX10_ring 3 = .ok (.bipush 8, 2) := by decide +kernel
theorem dX10_ring_5 : decode cX10_ring 5 = .ok (.if_icmp .ge 15, 3) := by decide +kernel
theorem dX10_ring_8 : decode cX10_ring 8 = .ok (.aload_n 0, 1) := by decide +kernel
theorem dX10_ring_9 : decode cX10_ring 9 = .ok (.iload_n 1, 1) := by decide +kernel
theorem dX10_ring_10 : decode cX10_ring 10 = .ok (.iload_n 3, 1) := by decide +kernel
theorem dX10_ring_11 : decode cX10_ring 11 = .ok (.iadd, 1) := by decide +kernel
theorem dX10_ring_12 : decode cX10_ring 12 = .ok (.iconst 0, 1) := by decide +kernel
theorem dX10_ring_13 : decode cX10_ring 13 = .ok (.iastore, 1) := by decide +kernel
theorem dX10_ring_14 : decode cX10_ring 14 = .ok (.iinc 3 1, 3) := by decide +kernel
theorem dX10_ring_17 : decode cX10_ring 17 = .ok (.goto (-15), 3) := by decide +kernel
theorem dX10_ring_20 : decode cX10_ring 20 = .ok (.iconst 0, 1) := by decide +kernel
theorem dX10_ring_21 : decode cX10_ring 21 = .ok (.istore_n 3, 1) := by decide +kernel
theorem dX10_ring_22 : decode cX10_ring 22 = .ok (.iload_n 3, 1) := by decide +kernel
theorem dX10_ring_23 : decode cX10_ring 23 = .ok (.iload_n 2, 1) := by decide +kernel
theorem dX10_ring_24 : decode cX10_ring 24 = .ok (.if_icmp .ge 20, 3) := by decide +kernel
theorem dX10_ring_27 : decode cX10_ring 27 = .ok (.aload_n 0, 1) := by decide +kernel
theorem dX10_ring_28 : decode cX10_ring 28 = .ok (.iload_n 1, 1) := by decide +kernel
theorem dX10_ring_29 : decode cX10_ring 29 = .ok (.iload_n 3, 1) := by decide +kernel
theorem dX10_ring_30 : decode cX10_ring 30 = .ok (.iload_n 3, 1) := by decide +kernel
theorem dX10_ring_31 : decode cX10_ring 31 = .ok (.iconst 1, 1) := by decide +kernel
theorem dX10_ring_32 : decode cX10_ring 32 = .ok (.iadd, 1) := by decide +kernel
theorem dX10_ring_33 : decode cX10_ring 33 = .ok (.iload_n 2, 1) := by decide +kernel
theorem dX10_ring_34 : decode cX10_ring 34 = .ok (.irem, 1) := by decide +kernel
theorem dX10_ring_35 : decode cX10_ring 35 = .ok (.invokestatic 108, 3) := by decide +kernel
theorem dX10_ring_38 : decode cX10_ring 38 = .ok (.iinc 3 1, 3) := by decide +kernel
theorem dX10_ring_41 : decode cX10_ring 41 = .ok (.goto (-19), 3) := by decide +kernel
theorem dX10_ring_44 : decode cX10_ring 44 = .ok (.return_, 1) := by decide +kernel
theorem dX10_readsFolds_0 : decode cX10_readsFolds 0 = .ok (.aload_n 0, 1) := by decide +kernel
theorem dX10_readsFolds_1 : decode cX10_readsFolds 1 = .ok (.getfield 16, 3) := by decide +kernel
theorem dX10_readsFolds_4 : decode cX10_readsFolds 4 = .ok (.iconst 0, 1) := by decide +kernel
theorem dX10_readsFolds_5 : decode cX10_readsFolds 5 = .ok (.iaload, 1) := by decide +kernel
theorem dX10_readsFolds_6 : decode cX10_readsFolds 6 = .ok (.istore_n 1, 1) := by decide +kernel
theorem dX10_readsFolds_7 : decode cX10_readsFolds 7 = .ok (.aload_n 0, 1) := by decide +kernel
theorem dX10_readsFolds_8 : decode cX10_readsFolds 8 = .ok (.getfield 16, 3) := by decide +kernel
theorem dX10_readsFolds_11 : decode cX10_readsFolds 11 = .ok (.bipush 44, 2) := by decide +kernel
theorem dX10_readsFolds_13 : decode cX10_readsFolds 13 = .ok (.iload_n 1, 1) := by decide +kernel
theorem dX10_readsFolds_14 : decode cX10_readsFolds 14 = .ok (.invokestatic 112, 3) := by decide +kernel
theorem dX10_readsFolds_17 : decode cX10_readsFolds 17 = .ok (.iload_n 1, 1) := by decide +kernel
theorem dX10_readsFolds_18 : decode cX10_readsFolds 18 = .ok (.iconst 3, 1) := by decide +kernel
theorem dX10_readsFolds_19 : decode cX10_readsFolds 19 = .ok (.if_icmp .ne 27, 3) := by decide +kernel
theorem dX10_readsFolds_22 : decode cX10_readsFolds 22 = .ok (.aload_n 0, 1) := by decide +kernel
theorem dX10_readsFolds_23 : decode cX10_readsFolds 23 = .ok (.bipush 45, 2) := by decide +kernel
theorem dX10_readsFolds_25 : decode cX10_readsFolds 25 = .ok (.invokevirtual 100, 3) := by decide +kernel
theorem dX10_readsFolds_28 : decode cX10_readsFolds 28 = .ok (.ifCond .eq 16, 3) := by decide +kernel
theorem dX10_readsFolds_31 : decode cX10_readsFolds 31 = .ok (.aload_n 0, 1) := by decide +kernel
theorem dX10_readsFolds_32 : decode cX10_readsFolds 32 = .ok (.bipush 59, 2) := by decide +kernel
theorem dX10_readsFolds_34 : decode cX10_readsFolds 34 = .ok (.invokevirtual 100, 3) := by decide +kernel
theorem dX10_readsFolds_37 : decode cX10_readsFolds 37 = .ok (.ifCond .eq 7, 3) := by decide +kernel
theorem dX10_readsFolds_40 : decode cX10_readsFolds 40 = .ok (.iconst 1, 1) := by decide +kernel
theorem dX10_readsFolds_41 : decode cX10_readsFolds 41 = .ok (.goto 4, 3) := by decide +kernel
theorem dX10_readsFolds_44 : decode cX10_readsFolds 44 = .ok (.iconst 0, 1) := by decide +kernel
theorem dX10_readsFolds_45 : decode cX10_readsFolds 45 = .ok (.ireturn, 1) := by decide +kernel
theorem dX10_readsFolds_46 : decode cX10_readsFolds 46 = .ok (.iconst 0, 1) := by decide +kernel
theorem dX10_readsFolds_47 : decode cX10_readsFolds 47 = .ok (.istore_n 2, 1) := by decide +kernel
theorem dX10_readsFolds_48 : decode cX10_readsFolds 48 = .ok (.iload_n 2, 1) := by decide +kernel
theorem dX10_readsFolds_49 : decode cX10_readsFolds 49 = .ok (.iload_n 1, 1) := by decide +kernel
theorem dX10_readsFolds_50 : decode cX10_readsFolds 50 = .ok (.iconst 3, 1) := by decide +kernel
theorem dX10_readsFolds_51 : decode cX10_readsFolds 51 = .ok (.isub, 1) := by decide +kernel
theorem dX10_readsFolds_52 : decode cX10_readsFolds 52 = .ok (.if_icmp .ge 102, 3) := by decide +kernel
theorem dX10_readsFolds_55 : decode cX10_readsFolds 55 = .ok (.iload_n 2, 1) := by decide +kernel
theorem dX10_readsFolds_56 : decode cX10_readsFolds 56 = .ok (.ifCond .le 14, 3) := by decide +kernel
theorem dX10_readsFolds_59 : decode cX10_readsFolds 59 = .ok (.aload_n 0, 1) := by decide +kernel
theorem dX10_readsFolds_60 : decode cX10_readsFolds 60 = .ok (.bipush 44, 2) := by decide +kernel
theorem dX10_readsFolds_62 : decode cX10_readsFolds 62 = .ok (.invokevirtual 100, 3) := by decide +kernel
theorem dX10_readsFolds_65 : decode cX10_readsFolds 65 = .ok (.ifCond .ne 5, 3) := by decide +kernel
theorem dX10_readsFolds_68 : decode cX10_readsFolds 68 = .ok (.iconst 0, 1) := by decide +kernel
theorem dX10_readsFolds_69 : decode cX10_readsFolds 69 = .ok (.ireturn, 1) := by decide +kernel
theorem dX10_readsFolds_70 : decode cX10_readsFolds 70 = .ok (.aload_n 0, 1) := by decide +kernel
theorem dX10_readsFolds_71 : decode cX10_readsFolds 71 = .ok (.iconst 0, 1) := by decide +kernel
theorem dX10_readsFolds_72 : decode cX10_readsFolds 72 = .ok (.iload_n 1, 1) := by decide +kernel
theorem dX10_readsFolds_73 : decode cX10_readsFolds 73 = .ok (.iconst 1, 1) := by decide +kernel
theorem dX10_readsFolds_74 : decode cX10_readsFolds 74 = .ok (.isub, 1) := by decide +kernel
theorem dX10_readsFolds_75 : decode cX10_readsFolds 75 = .ok (.invokevirtual 96, 3) := by decide +kernel
theorem dX10_readsFolds_78 : decode cX10_readsFolds 78 = .ok (.istore_n 3, 1) := by decide +kernel
theorem dX10_readsFolds_79 : decode cX10_readsFolds 79 = .ok (.iload_n 3, 1) := by decide +kernel
theorem dX10_readsFolds_80 : decode cX10_readsFolds 80 = .ok (.ifCond .ge 5, 3) := by decide +kernel
theorem dX10_readsFolds_83 : decode cX10_readsFolds 83 = .ok (.iconst 0, 1) := by decide +kernel
theorem dX10_readsFolds_84 : decode cX10_readsFolds 84 = .ok (.ireturn, 1) := by decide +kernel
theorem dX10_readsFolds_85 : decode cX10_readsFolds 85 = .ok (.aload_n 0, 1) := by decide +kernel
theorem dX10_readsFolds_86 : decode cX10_readsFolds 86 = .ok (.invokevirtual 88, 3) := by decide +kernel
theorem dX10_readsFolds_89 : decode cX10_readsFolds 89 = .ok (.bipush 48, 2) := by decide +kernel
theorem dX10_readsFolds_91 : decode cX10_readsFolds 91 = .ok (.isub, 1) := by decide +kernel
theorem dX10_readsFolds_92 : decode cX10_readsFolds 92 = .ok (.istore 4, 2) := by decide +kernel
theorem dX10_readsFolds_94 : decode cX10_readsFolds 94 = .ok (.iload 4, 2) := by decide +kernel
theorem dX10_readsFolds_96 : decode cX10_readsFolds 96 = .ok (.i2l, 1) := by decide +kernel
theorem dX10_readsFolds_97 : decode cX10_readsFolds 97 = .ok (.lconst 0, 1) := by decide +kernel
theorem dX10_readsFolds_98 : decode cX10_readsFolds 98 = .ok (.iload_n 1, 1) := by decide +kernel
theorem dX10_readsFolds_99 : decode cX10_readsFolds 99 = .ok (.iconst 1, 1) := by decide +kernel
theorem dX10_readsFolds_100 : decode cX10_readsFolds 100 = .ok (.isub, 1) := by decide +kernel
theorem dX10_readsFolds_101 : decode cX10_readsFolds 101 = .ok (.i2l, 1) := by decide +kernel
theorem dX10_readsFolds_102 : decode cX10_readsFolds 102 = .ok (.invokestatic 77, 3) := by decide +kernel
theorem dX10_readsFolds_105 : decode cX10_readsFolds 105 = .ok (.ifCond .eq 19, 3) := by decide +kernel
theorem dX10_readsFolds_108 : decode cX10_readsFolds 108 = .ok (.aload_n 0, 1) := by decide +kernel
theorem dX10_readsFolds_109 : decode cX10_readsFolds 109 = .ok (.getfield 16, 3) := by decide +kernel
theorem dX10_readsFolds_112 : decode cX10_readsFolds 112 = .ok (.bipush 44, 2) := by decide +kernel
theorem dX10_readsFolds_114 : decode cX10_readsFolds 114 = .ok (.iload_n 1, 1) := by decide +kernel
theorem dX10_readsFolds_115 : decode cX10_readsFolds 115 = .ok (.iload_n 3, 1) := by decide +kernel
theorem dX10_readsFolds_116 : decode cX10_readsFolds 116 = .ok (.iload 4, 2) := by decide +kernel
theorem dX10_readsFolds_118 : decode cX10_readsFolds 118 = .ok (.invokestatic 116, 3) := by decide +kernel
theorem dX10_readsFolds_121 : decode cX10_readsFolds 121 = .ok (.ifCond .ne 5, 3) := by decide +kernel
theorem dX10_readsFolds_124 : decode cX10_readsFolds 124 = .ok (.iconst 0, 1) := by decide +kernel
theorem dX10_readsFolds_125 : decode cX10_readsFolds 125 = .ok (.ireturn, 1) := by decide +kernel
theorem dX10_readsFolds_126 : decode cX10_readsFolds 126 = .ok (.aload_n 0, 1) := by decide +kernel
theorem dX10_readsFolds_127 : decode cX10_readsFolds 127 = .ok (.dup, 1) := by decide +kernel
theorem dX10_readsFolds_128 : decode cX10_readsFolds 128 = .ok (.getfield 85, 3) := by decide +kernel
theorem dX10_readsFolds_131 : decode cX10_readsFolds 131 = .ok (.iconst 1, 1) := by decide +kernel
theorem dX10_readsFolds_132 : decode cX10_readsFolds 132 = .ok (.iadd, 1) := by decide +kernel
theorem dX10_readsFolds_133 : decode cX10_readsFolds 133 = .ok (.putfield 85, 3) := by decide +kernel
theorem dX10_readsFolds_136 : decode cX10_readsFolds 136 = .ok (.aload_n 0, 1) := by decide +kernel
theorem dX10_readsFolds_137 : decode cX10_readsFolds 137 = .ok (.getfield 16, 3) := by decide +kernel
theorem dX10_readsFolds_140 : decode cX10_readsFolds 140 = .ok (.bipush 44, 2) := by decide +kernel
theorem dX10_readsFolds_142 : decode cX10_readsFolds 142 = .ok (.iload_n 3, 1) := by decide +kernel
theorem dX10_readsFolds_143 : decode cX10_readsFolds 143 = .ok (.iload 4, 2) := by decide +kernel
theorem dX10_readsFolds_145 : decode cX10_readsFolds 145 = .ok (.invokestatic 108, 3) := by decide +kernel
theorem dX10_readsFolds_148 : decode cX10_readsFolds 148 = .ok (.iinc 2 1, 3) := by decide +kernel
theorem dX10_readsFolds_151 : decode cX10_readsFolds 151 = .ok (.goto (-103), 3) := by decide +kernel
theorem dX10_readsFolds_154 : decode cX10_readsFolds 154 = .ok (.aload_n 0, 1) := by decide +kernel
theorem dX10_readsFolds_155 : decode cX10_readsFolds 155 = .ok (.bipush 59, 2) := by decide +kernel
theorem dX10_readsFolds_157 : decode cX10_readsFolds 157 = .ok (.invokevirtual 100, 3) := by decide +kernel
theorem dX10_readsFolds_160 : decode cX10_readsFolds 160 = .ok (.ireturn, 1) := by decide +kernel
theorem dX10_reads_0 : decode cX10_reads 0 = .ok (.iconst 0, 1) := by decide +kernel
theorem dX10_reads_1 : decode cX10_reads 1 = .ok (.istore_n 1, 1) := by decide +kernel
theorem dX10_reads_2 : decode cX10_reads 2 = .ok (.iload_n 1, 1) := by decide +kernel
theorem dX10_reads_3 : decode cX10_reads 3 = .ok (.bipush 52, 2) := by decide +kernel
theorem dX10_reads_5 : decode cX10_reads 5 = .ok (.if_icmp .ge 16, 3) := by decide +kernel
theorem dX10_reads_8 : decode cX10_reads 8 = .ok (.aload_n 0, 1) := by decide +kernel
theorem dX10_reads_9 : decode cX10_reads 9 = .ok (.getfield 16, 3) := by decide +kernel
theorem dX10_reads_12 : decode cX10_reads 12 = .ok (.iload_n 1, 1) := by decide +kernel
theorem dX10_reads_13 : decode cX10_reads 13 = .ok (.iconst 0, 1) := by decide +kernel
theorem dX10_reads_14 : decode cX10_reads 14 = .ok (.iastore, 1) := by decide +kernel
theorem dX10_reads_15 : decode cX10_reads 15 = .ok (.iinc 1 1, 3) := by decide +kernel
theorem dX10_reads_18 : decode cX10_reads 18 = .ok (.goto (-16), 3) := by decide +kernel
theorem dX10_reads_21 : decode cX10_reads 21 = .ok (.aload_n 0, 1) := by decide +kernel
theorem dX10_reads_22 : decode cX10_reads 22 = .ok (.iconst 0, 1) := by decide +kernel
theorem dX10_reads_23 : decode cX10_reads 23 = .ok (.putfield 85, 3) := by decide +kernel
theorem dX10_reads_26 : decode cX10_reads 26 = .ok (.aload_n 0, 1) := by decide +kernel
theorem dX10_reads_27 : decode cX10_reads 27 = .ok (.bipush 120, 2) := by decide +kernel
theorem dX10_reads_29 : decode cX10_reads 29 = .ok (.invokevirtual 100, 3) := by decide +kernel
theorem dX10_reads_32 : decode cX10_reads 32 = .ok (.ifCond .eq 17, 3) := by decide +kernel
theorem dX10_reads_35 : decode cX10_reads 35 = .ok (.aload_n 0, 1) := by decide +kernel
theorem dX10_reads_36 : decode cX10_reads 36 = .ok (.invokevirtual 120, 3) := by decide +kernel
theorem dX10_reads_39 : decode cX10_reads 39 = .ok (.ifCond .eq 10, 3) := by decide +kernel
theorem dX10_reads_42 : decode cX10_reads 42 = .ok (.aload_n 0, 1) := by decide +kernel
theorem dX10_reads_43 : decode cX10_reads 43 = .ok (.invokevirtual 124, 3) := by decide +kernel
theorem dX10_reads_46 : decode cX10_reads 46 = .ok (.ifCond .ne 5, 3) := by decide +kernel
theorem dX10_reads_49 : decode cX10_reads 49 = .ok (.iconst 0, 1) := by decide +kernel
theorem dX10_reads_50 : decode cX10_reads 50 = .ok (.ireturn, 1) := by decide +kernel
theorem dX10_reads_51 : decode cX10_reads 51 = .ok (.aload_n 0, 1) := by decide +kernel
theorem dX10_reads_52 : decode cX10_reads 52 = .ok (.getfield 16, 3) := by decide +kernel
theorem dX10_reads_55 : decode cX10_reads 55 = .ok (.iconst 1, 1) := by decide +kernel
theorem dX10_reads_56 : decode cX10_reads 56 = .ok (.aload_n 0, 1) := by decide +kernel
theorem dX10_reads_57 : decode cX10_reads 57 = .ok (.iconst 0, 1) := by decide +kernel
theorem dX10_reads_58 : decode cX10_reads 58 = .ok (.aload_n 0, 1) := by decide +kernel
theorem dX10_reads_59 : decode cX10_reads 59 = .ok (.getfield 16, 3) := by decide +kernel
theorem dX10_reads_62 : decode cX10_reads 62 = .ok (.iconst 0, 1) := by decide +kernel
theorem dX10_reads_63 : decode cX10_reads 63 = .ok (.iaload, 1) := by decide +kernel
theorem dX10_reads_64 : decode cX10_reads 64 = .ok (.iconst 1, 1) := by decide +kernel
theorem dX10_reads_65 : decode cX10_reads 65 = .ok (.isub, 1) := by decide +kernel
theorem dX10_reads_66 : decode cX10_reads 66 = .ok (.invokevirtual 96, 3) := by decide +kernel
theorem dX10_reads_69 : decode cX10_reads 69 = .ok (.iastore, 1) := by decide +kernel
theorem dX10_reads_70 : decode cX10_reads 70 = .ok (.aload_n 0, 1) := by decide +kernel
theorem dX10_reads_71 : decode cX10_reads 71 = .ok (.getfield 16, 3) := by decide +kernel
theorem dX10_reads_74 : decode cX10_reads 74 = .ok (.iconst 1, 1) := by decide +kernel
theorem dX10_reads_75 : decode cX10_reads 75 = .ok (.iaload, 1) := by decide +kernel
theorem dX10_reads_76 : decode cX10_reads 76 = .ok (.ifCond .ge 5, 3) := by decide +kernel
theorem dX10_reads_79 : decode cX10_reads 79 = .ok (.iconst 0, 1) := by decide +kernel
theorem dX10_reads_80 : decode cX10_reads 80 = .ok (.ireturn, 1) := by decide +kernel
theorem dX10_reads_81 : decode cX10_reads 81 = .ok (.aload_n 0, 1) := by decide +kernel
theorem dX10_reads_82 : decode cX10_reads 82 = .ok (.invokevirtual 88, 3) := by decide +kernel
theorem dX10_reads_85 : decode cX10_reads 85 = .ok (.bipush 48, 2) := by decide +kernel
theorem dX10_reads_87 : decode cX10_reads 87 = .ok (.isub, 1) := by decide +kernel
theorem dX10_reads_88 : decode cX10_reads 88 = .ok (.istore_n 1, 1) := by decide +kernel
theorem dX10_reads_89 : decode cX10_reads 89 = .ok (.iload_n 1, 1) := by decide +kernel
theorem dX10_reads_90 : decode cX10_reads 90 = .ok (.i2l, 1) := by decide +kernel
theorem dX10_reads_91 : decode cX10_reads 91 = .ok (.lconst 0, 1) := by decide +kernel
theorem dX10_reads_92 : decode cX10_reads 92 = .ok (.aload_n 0, 1) := by decide +kernel
theorem dX10_reads_93 : decode cX10_reads 93 = .ok (.getfield 16, 3) := by decide +kernel
theorem dX10_reads_96 : decode cX10_reads 96 = .ok (.iconst 0, 1) := by decide +kernel
theorem dX10_reads_97 : decode cX10_reads 97 = .ok (.iaload, 1) := by decide +kernel
theorem dX10_reads_98 : decode cX10_reads 98 = .ok (.iconst 1, 1) := by decide +kernel
theorem dX10_reads_99 : decode cX10_reads 99 = .ok (.isub, 1) := by decide +kernel
theorem dX10_reads_100 : decode cX10_reads 100 = .ok (.i2l, 1) := by decide +kernel
theorem dX10_reads_101 : decode cX10_reads 101 = .ok (.invokestatic 77, 3) := by decide +kernel
theorem dX10_reads_104 : decode cX10_reads 104 = .ok (.ifCond .eq 24, 3) := by decide +kernel
theorem dX10_reads_107 : decode cX10_reads 107 = .ok (.aload_n 0, 1) := by decide +kernel
theorem dX10_reads_108 : decode cX10_reads 108 = .ok (.getfield 16, 3) := by decide +kernel
theorem dX10_reads_111 : decode cX10_reads 111 = .ok (.bipush 44, 2) := by decide +kernel
theorem dX10_reads_113 : decode cX10_reads 113 = .ok (.aload_n 0, 1) := by decide +kernel
theorem dX10_reads_114 : decode cX10_reads 114 = .ok (.getfield 16, 3) := by decide +kernel
theorem dX10_reads_117 : decode cX10_reads 117 = .ok (.iconst 1, 1) := by decide +kernel
theorem dX10_reads_118 : decode cX10_reads 118 = .ok (.iaload, 1) := by decide +kernel
theorem dX10_reads_119 : decode cX10_reads 119 = .ok (.iadd, 1) := by decide +kernel
theorem dX10_reads_120 : decode cX10_reads 120 = .ok (.iaload, 1) := by decide +kernel
theorem dX10_reads_121 : decode cX10_reads 121 = .ok (.iload_n 1, 1) := by decide +kernel
theorem dX10_reads_122 : decode cX10_reads 122 = .ok (.ishr, 1) := by decide +kernel
theorem dX10_reads_123 : decode cX10_reads 123 = .ok (.iconst 1, 1) := by decide +kernel
theorem dX10_reads_124 : decode cX10_reads 124 = .ok (.iand, 1) := by decide +kernel
theorem dX10_reads_125 : decode cX10_reads 125 = .ok (.ifCond .ne 5, 3) := by decide +kernel
theorem dX10_reads_128 : decode cX10_reads 128 = .ok (.iconst 0, 1) := by decide +kernel
theorem dX10_reads_129 : decode cX10_reads 129 = .ok (.ireturn, 1) := by decide +kernel
theorem dX10_reads_130 : decode cX10_reads 130 = .ok (.aload_n 0, 1) := by decide +kernel
theorem dX10_reads_131 : decode cX10_reads 131 = .ok (.dup, 1) := by decide +kernel
theorem dX10_reads_132 : decode cX10_reads 132 = .ok (.getfield 85, 3) := by decide +kernel
theorem dX10_reads_135 : decode cX10_reads 135 = .ok (.iconst 1, 1) := by decide +kernel
theorem dX10_reads_136 : decode cX10_reads 136 = .ok (.iadd, 1) := by decide +kernel
theorem dX10_reads_137 : decode cX10_reads 137 = .ok (.putfield 85, 3) := by decide +kernel
theorem dX10_reads_140 : decode cX10_reads 140 = .ok (.aload_n 0, 1) := by decide +kernel
theorem dX10_reads_141 : decode cX10_reads 141 = .ok (.getfield 16, 3) := by decide +kernel
theorem dX10_reads_144 : decode cX10_reads 144 = .ok (.iconst 2, 1) := by decide +kernel
theorem dX10_reads_145 : decode cX10_reads 145 = .ok (.iload_n 1, 1) := by decide +kernel
theorem dX10_reads_146 : decode cX10_reads 146 = .ok (.iastore, 1) := by decide +kernel
theorem dX10_reads_147 : decode cX10_reads 147 = .ok (.aload_n 0, 1) := by decide +kernel
theorem dX10_reads_148 : decode cX10_reads 148 = .ok (.getfield 85, 3) := by decide +kernel
theorem dX10_reads_151 : decode cX10_reads 151 = .ok (.aload_n 0, 1) := by decide +kernel
theorem dX10_reads_152 : decode cX10_reads 152 = .ok (.getfield 81, 3) := by decide +kernel
theorem dX10_reads_155 : decode cX10_reads 155 = .ok (.if_icmp .ne 7, 3) := by decide +kernel
theorem dX10_reads_158 : decode cX10_reads 158 = .ok (.iconst 1, 1) := by decide +kernel
theorem dX10_reads_159 : decode cX10_reads 159 = .ok (.goto 4, 3) := by decide +kernel
theorem dX10_reads_162 : decode cX10_reads 162 = .ok (.iconst 0, 1) := by decide +kernel
theorem dX10_reads_163 : decode cX10_reads 163 = .ok (.ireturn, 1) := by decide +kernel
theorem dX10_strip_0 : decode cX10_strip 0 = .ok (.aload_n 0, 1) := by decide +kernel
theorem dX10_strip_1 : decode cX10_strip 1 = .ok (.invokevirtual 127, 3) := by decide +kernel
theorem dX10_strip_4 : decode cX10_strip 4 = .ok (.istore_n 1, 1) := by decide +kernel
theorem dX10_strip_5 : decode cX10_strip 5 = .ok (.aload_n 0, 1) := by decide +kernel
theorem dX10_strip_6 : decode cX10_strip 6 = .ok (.iconst 0, 1) := by decide +kernel
theorem dX10_strip_7 : decode cX10_strip 7 = .ok (.putfield 81, 3) := by decide +kernel
theorem dX10_strip_10 : decode cX10_strip 10 = .ok (.iload_n 1, 1) := by decide +kernel
theorem dX10_strip_11 : decode cX10_strip 11 = .ok (.ifCond .ne 11, 3) := by decide +kernel
theorem dX10_strip_14 : decode cX10_strip 14 = .ok (.bipush (-100), 2) := by decide +kernel
theorem dX10_strip_16 : decode cX10_strip 16 = .ok (.aload_n 0, 1) := by decide +kernel
theorem dX10_strip_17 : decode cX10_strip 17 = .ok (.getfield 85, 3) := by decide +kernel
theorem dX10_strip_20 : decode cX10_strip 20 = .ok (.isub, 1) := by decide +kernel
theorem dX10_strip_21 : decode cX10_strip 21 = .ok (.ireturn, 1) := by decide +kernel
theorem dX10_strip_22 : decode cX10_strip 22 = .ok (.iconst 0, 1) := by decide +kernel
theorem dX10_strip_23 : decode cX10_strip 23 = .ok (.istore_n 2, 1) := by decide +kernel
theorem dX10_strip_24 : decode cX10_strip 24 = .ok (.iload_n 2, 1) := by decide +kernel
theorem dX10_strip_25 : decode cX10_strip 25 = .ok (.bipush 52, 2) := by decide +kernel
theorem dX10_strip_27 : decode cX10_strip 27 = .ok (.if_icmp .ge 21, 3) := by decide +kernel
theorem dX10_strip_30 : decode cX10_strip 30 = .ok (.aload_n 0, 1) := by decide +kernel
theorem dX10_strip_31 : decode cX10_strip 31 = .ok (.getfield 7, 3) := by decide +kernel
theorem dX10_strip_34 : decode cX10_strip 34 = .ok (.iload_n 2, 1) := by decide +kernel
theorem dX10_strip_35 : decode cX10_strip 35 = .ok (.aload_n 0, 1) := by decide +kernel
theorem dX10_strip_36 : decode cX10_strip 36 = .ok (.getfield 16, 3) := by decide +kernel
theorem dX10_strip_39 : decode cX10_strip 39 = .ok (.iload_n 2, 1) := by decide +kernel
theorem dX10_strip_40 : decode cX10_strip 40 = .ok (.iaload, 1) := by decide +kernel
theorem dX10_strip_41 : decode cX10_strip 41 = .ok (.iastore, 1) := by decide +kernel
theorem dX10_strip_42 : decode cX10_strip 42 = .ok (.iinc 2 1, 3) := by decide +kernel
theorem dX10_strip_45 : decode cX10_strip 45 = .ok (.goto (-21), 3) := by decide +kernel
theorem dX10_strip_48 : decode cX10_strip 48 = .ok (.aload_n 0, 1) := by decide +kernel
theorem dX10_strip_49 : decode cX10_strip 49 = .ok (.iconst 0, 1) := by decide +kernel
theorem dX10_strip_50 : decode cX10_strip 50 = .ok (.putfield 130, 3) := by decide +kernel
theorem dX10_strip_53 : decode cX10_strip 53 = .ok (.aload_n 0, 1) := by decide +kernel
theorem dX10_strip_54 : decode cX10_strip 54 = .ok (.getfield 7, 3) := by decide +kernel
theorem dX10_strip_57 : decode cX10_strip 57 = .ok (.iconst 0, 1) := by decide +kernel
theorem dX10_strip_58 : decode cX10_strip 58 = .ok (.iaload, 1) := by decide +kernel
theorem dX10_strip_59 : decode cX10_strip 59 = .ok (.ireturn, 1) := by decide +kernel
theorem dX10_isThere_0 : decode cX10_isThere 0 = .ok (.aload_n 0, 1) := by decide +kernel
theorem dX10_isThere_1 : decode cX10_isThere 1 = .ok (.getfield 7, 3) := by decide +kernel
theorem dX10_isThere_4 : decode cX10_isThere 4 = .ok (.iconst 0, 1) := by decide +kernel
theorem dX10_isThere_5 : decode cX10_isThere 5 = .ok (.iaload, 1) := by decide +kernel
theorem dX10_isThere_6 : decode cX10_isThere 6 = .ok (.ifCond .le 7, 3) := by decide +kernel
theorem dX10_isThere_9 : decode cX10_isThere 9 = .ok (.iconst 1, 1) := by decide +kernel
theorem dX10_isThere_10 : decode cX10_isThere 10 = .ok (.goto 4, 3) := by decide +kernel
theorem dX10_isThere_13 : decode cX10_isThere 13 = .ok (.iconst 0, 1) := by decide +kernel
theorem dX10_isThere_14 : decode cX10_isThere 14 = .ok (.ireturn, 1) := by decide +kernel
theorem dX10_isPicture_0 : decode cX10_isPicture 0 = .ok (.iload_n 1, 1) := by decide +kernel
theorem dX10_isPicture_1 : decode cX10_isPicture 1 = .ok (.i2l, 1) := by decide +kernel
theorem dX10_isPicture_2 : decode cX10_isPicture 2 = .ok (.lconst 0, 1) := by decide +kernel
theorem dX10_isPicture_3 : decode cX10_isPicture 3 = .ok (.aload_n 0, 1) := by decide +kernel
theorem dX10_isPicture_4 : decode cX10_isPicture 4 = .ok (.getfield 7, 3) := by decide +kernel
theorem dX10_isPicture_7 : decode cX10_isPicture 7 = .ok (.iconst 0, 1) := by decide +kernel
theorem dX10_isPicture_8 : decode cX10_isPicture 8 = .ok (.iaload, 1) := by decide +kernel
theorem dX10_isPicture_9 : decode cX10_isPicture 9 = .ok (.iconst 1, 1) := by decide +kernel
theorem dX10_isPicture_10 : decode cX10_isPicture 10 = .ok (.isub, 1) := by decide +kernel
theorem dX10_isPicture_11 : decode cX10_isPicture 11 = .ok (.i2l, 1) := by decide +kernel
theorem dX10_isPicture_12 : decode cX10_isPicture 12 = .ok (.invokestatic 77, 3) := by decide +kernel
theorem dX10_isPicture_15 : decode cX10_isPicture 15 = .ok (.ireturn, 1) := by decide +kernel
theorem dX10_effortOf_0 : decode cX10_effortOf 0 = .ok (.iload_n 1, 1) := by decide +kernel
theorem dX10_effortOf_1 : decode cX10_effortOf 1 = .ok (.iconst 3, 1) := by decide +kernel
theorem dX10_effortOf_2 : decode cX10_effortOf 2 = .ok (.if_icmp .le 7, 3) := by decide +kernel
theorem dX10_effortOf_5 : decode cX10_effortOf 5 = .ok (.iconst 1, 1) := by decide +kernel
theorem dX10_effortOf_6 : decode cX10_effortOf 6 = .ok (.goto 6, 3) := by decide +kernel
theorem dX10_effortOf_9 : decode cX10_effortOf 9 = .ok (.iconst 4, 1) := by decide +kernel
theorem dX10_effortOf_10 : decode cX10_effortOf 10 = .ok (.iload_n 1, 1) := by decide +kernel
theorem dX10_effortOf_11 : decode cX10_effortOf 11 = .ok (.isub, 1) := by decide +kernel
theorem dX10_effortOf_12 : decode cX10_effortOf 12 = .ok (.istore_n 2, 1) := by decide +kernel
theorem dX10_effortOf_13 : decode cX10_effortOf 13 = .ok (.iload_n 0, 1) := by decide +kernel
theorem dX10_effortOf_14 : decode cX10_effortOf 14 = .ok (.iconst 2, 1) := by decide +kernel
theorem dX10_effortOf_15 : decode cX10_effortOf 15 = .ok (.if_icmp .ne 7, 3) := by decide +kernel
theorem dX10_effortOf_18 : decode cX10_effortOf 18 = .ok (.iconst 1, 1) := by decide +kernel
theorem dX10_effortOf_19 : decode cX10_effortOf 19 = .ok (.goto 22, 3) := by decide +kernel
theorem dX10_effortOf_22 : decode cX10_effortOf 22 = .ok (.iload_n 0, 1) := by decide +kernel
theorem dX10_effortOf_23 : decode cX10_effortOf 23 = .ok (.iconst 4, 1) := by decide +kernel
theorem dX10_effortOf_24 : decode cX10_effortOf 24 = .ok (.if_icmp .ne 7, 3) := by decide +kernel
theorem dX10_effortOf_27 : decode cX10_effortOf 27 = .ok (.iconst 4, 1) := by decide +kernel
theorem dX10_effortOf_28 : decode cX10_effortOf 28 = .ok (.goto 13, 3) := by decide +kernel
theorem dX10_effortOf_31 : decode cX10_effortOf 31 = .ok (.iload_n 0, 1) := by decide +kernel
theorem dX10_effortOf_32 : decode cX10_effortOf 32 = .ok (.iconst 5, 1) := by decide +kernel
theorem dX10_effortOf_33 : decode cX10_effortOf 33 = .ok (.if_icmp .ne 7, 3) := by decide +kernel
theorem dX10_effortOf_36 : decode cX10_effortOf 36 = .ok (.iload_n 2, 1) := by decide +kernel
theorem dX10_effortOf_37 : decode cX10_effortOf 37 = .ok (.goto 4, 3) := by decide +kernel
theorem dX10_effortOf_40 : decode cX10_effortOf 40 = .ok (.iconst 2, 1) := by decide +kernel
theorem dX10_effortOf_41 : decode cX10_effortOf 41 = .ok (.ireturn, 1) := by decide +kernel
theorem dX10_effortNow_0 : decode cX10_effortNow 0 = .ok (.aload_n 0, 1) := by decide +kernel
theorem dX10_effortNow_1 : decode cX10_effortNow 1 = .ok (.getfield 7, 3) := by decide +kernel
theorem dX10_effortNow_4 : decode cX10_effortNow 4 = .ok (.iconst 4, 1) := by decide +kernel
theorem dX10_effortNow_5 : decode cX10_effortNow 5 = .ok (.iload_n 1, 1) := by decide +kernel
theorem dX10_effortNow_6 : decode cX10_effortNow 6 = .ok (.iadd, 1) := by decide +kernel
theorem dX10_effortNow_7 : decode cX10_effortNow 7 = .ok (.iaload, 1) := by decide +kernel
theorem dX10_effortNow_8 : decode cX10_effortNow 8 = .ok (.aload_n 0, 1) := by decide +kernel
theorem dX10_effortNow_9 : decode cX10_effortNow 9 = .ok (.getfield 7, 3) := by decide +kernel
theorem dX10_effortNow_12 : decode cX10_effortNow 12 = .ok (.bipush 36, 2) := by decide +kernel
theorem dX10_effortNow_14 : decode cX10_effortNow 14 = .ok (.iload_n 1, 1) := by decide +kernel
theorem dX10_effortNow_15 : decode cX10_effortNow 15 = .ok (.iadd, 1) := by decide +kernel
theorem dX10_effortNow_16 : decode cX10_effortNow 16 = .ok (.iaload, 1) := by decide +kernel
theorem dX10_effortNow_17 : decode cX10_effortNow 17 = .ok (.invokestatic 133, 3) := by decide +kernel
theorem dX10_effortNow_20 : decode cX10_effortNow 20 = .ok (.ireturn, 1) := by decide +kernel
theorem dX10_wears_0 : decode cX10_wears 0 = .ok (.iload_n 0, 1) := by decide +kernel
theorem dX10_wears_1 : decode cX10_wears 1 = .ok (.iconst 3, 1) := by decide +kernel
theorem dX10_wears_2 : decode cX10_wears 2 = .ok (.if_icmp .le 7, 3) := by decide +kernel
theorem dX10_wears_5 : decode cX10_wears 5 = .ok (.iconst 0, 1) := by decide +kernel
theorem dX10_wears_6 : decode cX10_wears 6 = .ok (.goto 13, 3) := by decide +kernel
theorem dX10_wears_9 : decode cX10_wears 9 = .ok (.iload_n 0, 1) := by decide +kernel
theorem dX10_wears_10 : decode cX10_wears 10 = .ok (.iconst 3, 1) := by decide +kernel
theorem dX10_wears_11 : decode cX10_wears 11 = .ok (.if_icmp .ne 7, 3) := by decide +kernel
theorem dX10_wears_14 : decode cX10_wears 14 = .ok (.iconst 2, 1) := by decide +kernel
theorem dX10_wears_15 : decode cX10_wears 15 = .ok (.goto 4, 3) := by decide +kernel
theorem dX10_wears_18 : decode cX10_wears 18 = .ok (.iconst 1, 1) := by decide +kernel
theorem dX10_wears_19 : decode cX10_wears 19 = .ok (.ireturn, 1) := by decide +kernel
theorem dX10_isTorn_0 : decode cX10_isTorn 0 = .ok (.aload_n 0, 1) := by decide +kernel
theorem dX10_isTorn_1 : decode cX10_isTorn 1 = .ok (.getfield 7, 3) := by decide +kernel
theorem dX10_isTorn_4 : decode cX10_isTorn 4 = .ok (.bipush 28, 2) := by decide +kernel
theorem dX10_isTorn_6 : decode cX10_isTorn 6 = .ok (.iload_n 1, 1) := by decide +kernel
theorem dX10_isTorn_7 : decode cX10_isTorn 7 = .ok (.iadd, 1) := by decide +kernel
theorem dX10_isTorn_8 : decode cX10_isTorn 8 = .ok (.iaload, 1) := by decide +kernel
theorem dX10_isTorn_9 : decode cX10_isTorn 9 = .ok (.aload_n 0, 1) := by decide +kernel
theorem dX10_isTorn_10 : decode cX10_isTorn 10 = .ok (.getfield 7, 3) := by decide +kernel
theorem dX10_isTorn_13 : decode cX10_isTorn 13 = .ok (.bipush 20, 2) := by decide +kernel
theorem dX10_isTorn_15 : decode cX10_isTorn 15 = .ok (.iload_n 1, 1) := by decide +kernel
theorem dX10_isTorn_16 : decode cX10_isTorn 16 = .ok (.iadd, 1) := by decide +kernel
theorem dX10_isTorn_17 : decode cX10_isTorn 17 = .ok (.iaload, 1) := by decide +kernel
theorem dX10_isTorn_18 : decode cX10_isTorn 18 = .ok (.if_icmp .lt 7, 3) := by decide +kernel
theorem dX10_isTorn_21 : decode cX10_isTorn 21 = .ok (.iconst 1, 1) := by decide +kernel
theorem dX10_isTorn_22 : decode cX10_isTorn 22 = .ok (.goto 4, 3) := by decide +kernel
theorem dX10_isTorn_25 : decode cX10_isTorn 25 = .ok (.iconst 0, 1) := by decide +kernel
theorem dX10_isTorn_26 : decode cX10_isTorn 26 = .ok (.ireturn, 1) := by decide +kernel
theorem dX10_picture_0 : decode cX10_picture 0 = .ok (.aload_n 0, 1) := by decide +kernel
theorem dX10_picture_1 : decode cX10_picture 1 = .ok (.iload_n 1, 1) := by decide +kernel
theorem dX10_picture_2 : decode cX10_picture 2 = .ok (.invokevirtual 136, 3) := by decide +kernel
theorem dX10_picture_5 : decode cX10_picture 5 = .ok (.ifCond .ne 5, 3) := by decide +kernel
theorem dX10_picture_8 : decode cX10_picture 8 = .ok (.iconst (-1), 1) := by decide +kernel
theorem dX10_picture_9 : decode cX10_picture 9 = .ok (.ireturn, 1) := by decide +kernel
theorem dX10_picture_10 : decode cX10_picture 10 = .ok (.iload_n 2, 1) := by decide +kernel
theorem dX10_picture_11 : decode cX10_picture 11 = .ok (.tableswitch 124 0 7 #[45, 54, 64, 74, 84, 94, 100, 110], 45) := by decide +kernel
theorem dX10_picture_56 : decode cX10_picture 56 = .ok (.aload_n 0, 1) := by decide +kernel
theorem dX10_picture_57 : decode cX10_picture 57 = .ok (.getfield 7, 3) := by decide +kernel
theorem dX10_picture_60 : decode cX10_picture 60 = .ok (.iconst 4, 1) := by decide +kernel
theorem dX10_picture_61 : decode cX10_picture 61 = .ok (.iload_n 1, 1) := by decide +kernel
theorem dX10_picture_62 : decode cX10_picture 62 = .ok (.iadd, 1) := by decide +kernel
theorem dX10_picture_63 : decode cX10_picture 63 = .ok (.iaload, 1) := by decide +kernel
theorem dX10_picture_64 : decode cX10_picture 64 = .ok (.ireturn, 1) := by decide +kernel
theorem dX10_picture_65 : decode cX10_picture 65 = .ok (.aload_n 0, 1) := by decide +kernel
theorem dX10_picture_66 : decode cX10_picture 66 = .ok (.getfield 7, 3) := by decide +kernel
theorem dX10_picture_69 : decode cX10_picture 69 = .ok (.bipush 12, 2) := by decide +kernel
theorem dX10_picture_71 : decode cX10_picture 71 = .ok (.iload_n 1, 1) := by decide +kernel
theorem dX10_picture_72 : decode cX10_picture 72 = .ok (.iadd, 1) := by decide +kernel
theorem dX10_picture_73 : decode cX10_picture 73 = .ok (.iaload, 1) := by decide +kernel
theorem dX10_picture_74 : decode cX10_picture 74 = .ok (.ireturn, 1) := by decide +kernel
theorem dX10_picture_75 : decode cX10_picture 75 = .ok (.aload_n 0, 1) := by decide +kernel
theorem dX10_picture_76 : decode cX10_picture 76 = .ok (.getfield 7, 3) := by decide +kernel
theorem dX10_picture_79 : decode cX10_picture 79 = .ok (.bipush 20, 2) := by decide +kernel
theorem dX10_picture_81 : decode cX10_picture 81 = .ok (.iload_n 1, 1) := by decide +kernel
theorem dX10_picture_82 : decode cX10_picture 82 = .ok (.iadd, 1) := by decide +kernel
theorem dX10_picture_83 : decode cX10_picture 83 = .ok (.iaload, 1) := by decide +kernel
theorem dX10_picture_84 : decode cX10_picture 84 = .ok (.ireturn, 1) := by decide +kernel
theorem dX10_picture_85 : decode cX10_picture 85 = .ok (.aload_n 0, 1) := by decide +kernel
theorem dX10_picture_86 : decode cX10_picture 86 = .ok (.getfield 7, 3) := by decide +kernel
theorem dX10_picture_89 : decode cX10_picture 89 = .ok (.bipush 28, 2) := by decide +kernel
theorem dX10_picture_91 : decode cX10_picture 91 = .ok (.iload_n 1, 1) := by decide +kernel
theorem dX10_picture_92 : decode cX10_picture 92 = .ok (.iadd, 1) := by decide +kernel
theorem dX10_picture_93 : decode cX10_picture 93 = .ok (.iaload, 1) := by decide +kernel
theorem dX10_picture_94 : decode cX10_picture 94 = .ok (.ireturn, 1) := by decide +kernel
theorem dX10_picture_95 : decode cX10_picture 95 = .ok (.aload_n 0, 1) := by decide +kernel
theorem dX10_picture_96 : decode cX10_picture 96 = .ok (.getfield 7, 3) := by decide +kernel
theorem dX10_picture_99 : decode cX10_picture 99 = .ok (.bipush 36, 2) := by decide +kernel
theorem dX10_picture_101 : decode cX10_picture 101 = .ok (.iload_n 1, 1) := by decide +kernel
theorem dX10_picture_102 : decode cX10_picture 102 = .ok (.iadd, 1) := by decide +kernel
theorem dX10_picture_103 : decode cX10_picture 103 = .ok (.iaload, 1) := by decide +kernel
theorem dX10_picture_104 : decode cX10_picture 104 = .ok (.ireturn, 1) := by decide +kernel
theorem dX10_picture_105 : decode cX10_picture 105 = .ok (.aload_n 0, 1) := by decide +kernel
theorem dX10_picture_106 : decode cX10_picture 106 = .ok (.iload_n 1, 1) := by decide +kernel
theorem dX10_picture_107 : decode cX10_picture 107 = .ok (.invokevirtual 139, 3) := by decide +kernel
theorem dX10_picture_110 : decode cX10_picture 110 = .ok (.ireturn, 1) := by decide +kernel
theorem dX10_picture_111 : decode cX10_picture 111 = .ok (.aload_n 0, 1) := by decide +kernel
theorem dX10_picture_112 : decode cX10_picture 112 = .ok (.getfield 7, 3) := by decide +kernel
theorem dX10_picture_115 : decode cX10_picture 115 = .ok (.bipush 44, 2) := by decide +kernel
theorem dX10_picture_117 : decode cX10_picture 117 = .ok (.iload_n 1, 1) := by decide +kernel
theorem dX10_picture_118 : decode cX10_picture 118 = .ok (.iadd, 1) := by decide +kernel
theorem dX10_picture_119 : decode cX10_picture 119 = .ok (.iaload, 1) := by decide +kernel
theorem dX10_picture_120 : decode cX10_picture 120 = .ok (.ireturn, 1) := by decide +kernel
theorem dX10_picture_121 : decode cX10_picture 121 = .ok (.aload_n 0, 1) := by decide +kernel
theorem dX10_picture_122 : decode cX10_picture 122 = .ok (.iload_n 1, 1) := by decide +kernel
theorem dX10_picture_123 : decode cX10_picture 123 = .ok (.invokevirtual 142, 3) := by decide +kernel
theorem dX10_picture_126 : decode cX10_picture 126 = .ok (.ifCond .eq 7, 3) := by decide +kernel
theorem dX10_picture_129 : decode cX10_picture 129 = .ok (.iconst 1, 1) := by decide +kernel
theorem dX10_picture_130 : decode cX10_picture 130 = .ok (.goto 4, 3) := by decide +kernel
theorem dX10_picture_133 : decode cX10_picture 133 = .ok (.iconst 0, 1) := by decide +kernel
theorem dX10_picture_134 : decode cX10_picture 134 = .ok (.ireturn, 1) := by decide +kernel
theorem dX10_picture_135 : decode cX10_picture 135 = .ok (.iconst (-1), 1) := by decide +kernel
theorem dX10_picture_136 : decode cX10_picture 136 = .ok (.ireturn, 1) := by decide +kernel
theorem dX10_isOf_0 : decode cX10_isOf 0 = .ok (.iload_n 1, 1) := by decide +kernel
theorem dX10_isOf_1 : decode cX10_isOf 1 = .ok (.ifCond .eq 33, 3) := by decide +kernel
theorem dX10_isOf_4 : decode cX10_isOf 4 = .ok (.iload_n 0, 1) := by decide +kernel
theorem dX10_isOf_5 : decode cX10_isOf 5 = .ok (.iload_n 1, 1) := by decide +kernel
theorem dX10_isOf_6 : decode cX10_isOf 6 = .ok (.if_icmp .eq 28, 3) := by decide +kernel
theorem dX10_isOf_9 : decode cX10_isOf 9 = .ok (.iload_n 1, 1) := by decide +kernel
theorem dX10_isOf_10 : decode cX10_isOf 10 = .ok (.iconst 1, 1) := by decide +kernel
theorem dX10_isOf_11 : decode cX10_isOf 11 = .ok (.if_icmp .ne 13, 3) := by decide +kernel
theorem dX10_isOf_14 : decode cX10_isOf 14 = .ok (.iload_n 0, 1) := by decide +kernel
theorem dX10_isOf_15 : decode cX10_isOf 15 = .ok (.iconst 2, 1) := by decide +kernel
theorem dX10_isOf_16 : decode cX10_isOf 16 = .ok (.if_icmp .eq 18, 3) := by decide +kernel
theorem dX10_isOf_19 : decode cX10_isOf 19 = .ok (.iload_n 0, 1) := by decide +kernel
theorem dX10_isOf_20 : decode cX10_isOf 20 = .ok (.iconst 3, 1) := by decide +kernel
theorem dX10_isOf_21 : decode cX10_isOf 21 = .ok (.if_icmp .eq 13, 3) := by decide +kernel
theorem dX10_isOf_24 : decode cX10_isOf 24 = .ok (.iload_n 1, 1) := by decide +kernel
theorem dX10_isOf_25 : decode cX10_isOf 25 = .ok (.iconst 4, 1) := by decide +kernel
theorem dX10_isOf_26 : decode cX10_isOf 26 = .ok (.if_icmp .ne 12, 3) := by decide +kernel
theorem dX10_isOf_29 : decode cX10_isOf 29 = .ok (.iload_n 0, 1) := by decide +kernel
theorem dX10_isOf_30 : decode cX10_isOf 30 = .ok (.iconst 5, 1) := by decide +kernel
theorem dX10_isOf_31 : decode cX10_isOf 31 = .ok (.if_icmp .ne 7, 3) := by decide +kernel
theorem dX10_isOf_34 : decode cX10_isOf 34 = .ok (.iconst 1, 1) := by decide +kernel
theorem dX10_isOf_35 : decode cX10_isOf 35 = .ok (.goto 4, 3) := by decide +kernel
theorem dX10_isOf_38 : decode cX10_isOf 38 = .ok (.iconst 0, 1) := by decide +kernel
theorem dX10_isOf_39 : decode cX10_isOf 39 = .ok (.ireturn, 1) := by decide +kernel
theorem dX10_as_0 : decode cX10_as 0 = .ok (.aload_n 0, 1) := by decide +kernel
theorem dX10_as_1 : decode cX10_as 1 = .ok (.iload_n 1, 1) := by decide +kernel
theorem dX10_as_2 : decode cX10_as 2 = .ok (.invokevirtual 136, 3) := by decide +kernel
theorem dX10_as_5 : decode cX10_as 5 = .ok (.ifCond .eq 15, 3) := by decide +kernel
theorem dX10_as_8 : decode cX10_as 8 = .ok (.iload_n 2, 1) := by decide +kernel
theorem dX10_as_9 : decode cX10_as 9 = .ok (.i2l, 1) := by decide +kernel
theorem dX10_as_10 : decode cX10_as 10 = .ok (.lconst 0, 1) := by decide +kernel
theorem dX10_as_11 : decode cX10_as 11 = .ok (.ldc2_w 145, 3) := by decide +kernel
theorem dX10_as_14 : decode cX10_as 14 = .ok (.invokestatic 77, 3) := by decide +kernel
theorem dX10_as_17 : decode cX10_as 17 = .ok (.ifCond .ne 5, 3) := by decide +kernel
theorem dX10_as_20 : decode cX10_as 20 = .ok (.iconst (-1), 1) := by decide +kernel
theorem dX10_as_21 : decode cX10_as 21 = .ok (.ireturn, 1) := by decide +kernel
theorem dX10_as_22 : decode cX10_as 22 = .ok (.aload_n 0, 1) := by decide +kernel
theorem dX10_as_23 : decode cX10_as 23 = .ok (.getfield 7, 3) := by decide +kernel
theorem dX10_as_26 : decode cX10_as 26 = .ok (.iconst 4, 1) := by decide +kernel
theorem dX10_as_27 : decode cX10_as 27 = .ok (.iload_n 1, 1) := by decide +kernel
theorem dX10_as_28 : decode cX10_as 28 = .ok (.iadd, 1) := by decide +kernel
theorem dX10_as_29 : decode cX10_as 29 = .ok (.iaload, 1) := by decide +kernel
theorem dX10_as_30 : decode cX10_as 30 = .ok (.iload_n 2, 1) := by decide +kernel
theorem dX10_as_31 : decode cX10_as 31 = .ok (.invokestatic 147, 3) := by decide +kernel
theorem dX10_as_34 : decode cX10_as 34 = .ok (.ifCond .eq 7, 3) := by decide +kernel
theorem dX10_as_37 : decode cX10_as 37 = .ok (.iload_n 1, 1) := by decide +kernel
theorem dX10_as_38 : decode cX10_as 38 = .ok (.goto 5, 3) := by decide +kernel
theorem dX10_as_41 : decode cX10_as 41 = .ok (.bipush (-12), 2) := by decide +kernel
theorem dX10_as_43 : decode cX10_as 43 = .ok (.ireturn, 1) := by decide +kernel
theorem dX10_third_0 : decode cX10_third 0 = .ok (.bipush (-4), 2) := by decide +kernel
theorem dX10_third_2 : decode cX10_third 2 = .ok (.istore 5, 2) := by decide +kernel
theorem dX10_third_4 : decode cX10_third 4 = .ok (.iconst 0, 1) := by decide +kernel
theorem dX10_third_5 : decode cX10_third 5 = .ok (.istore 6, 2) := by decide +kernel
theorem dX10_third_7 : decode cX10_third 7 = .ok (.iload 6, 2) := by decide +kernel
theorem dX10_third_9 : decode cX10_third 9 = .ok (.iload_n 2, 1) := by decide +kernel
theorem dX10_third_10 : decode cX10_third 10 = .ok (.if_icmp .ge 50, 3) := by decide +kernel
theorem dX10_third_13 : decode cX10_third 13 = .ok (.iload 6, 2) := by decide +kernel
theorem dX10_third_15 : decode cX10_third 15 = .ok (.iload_n 3, 1) := by decide +kernel
theorem dX10_third_16 : decode cX10_third 16 = .ok (.iload 4, 2) := by decide +kernel
theorem dX10_third_18 : decode cX10_third 18 = .ok (.iload_n 2, 1) := by decide +kernel
theorem dX10_third_19 : decode cX10_third 19 = .ok (.invokestatic 104, 3) := by decide +kernel
theorem dX10_third_22 : decode cX10_third 22 = .ok (.ifCond .eq 28, 3) := by decide +kernel
theorem dX10_third_25 : decode cX10_third 25 = .ok (.aload_n 0, 1) := by decide +kernel
theorem dX10_third_26 : decode cX10_third 26 = .ok (.iload_n 1, 1) := by decide +kernel
theorem dX10_third_27 : decode cX10_third 27 = .ok (.iload_n 3, 1) := by decide +kernel
theorem dX10_third_28 : decode cX10_third 28 = .ok (.iadd, 1) := by decide +kernel
