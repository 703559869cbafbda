theorem dX10_way_15 : decode cX10_way 15 = .ok (.ireturn, 1) := by decide +kernel
theorem dX10_way_16 : decode cX10_way 16 = .ok (.aload_n 0, 1) := by decide +kernel
theorem dX10_way_17 : decode cX10_way 17 = .ok (.iload_n 1, 1) := by decide +kernel
theorem dX10_way_18 : decode cX10_way 18 = .ok (.invokevirtual 187, 3) := by decide +kernel
theorem dX10_way_21 : decode cX10_way 21 = .ok (.aload_n 0, 1) := by decide +kernel
theorem dX10_way_22 : decode cX10_way 22 = .ok (.invokevirtual 177, 3) := by decide +kernel
theorem dX10_way_25 : decode cX10_way 25 = .ok (.istore_n 3, 1) := by decide +kernel
theorem dX10_way_26 : decode cX10_way 26 = .ok (.aload_n 0, 1) := by decide +kernel
theorem dX10_way_27 : decode cX10_way 27 = .ok (.getfield 35, 3) := by decide +kernel
theorem dX10_way_30 : decode cX10_way 30 = .ok (.iload_n 3, 1) := by decide +kernel
theorem dX10_way_31 : decode cX10_way 31 = .ok (.iaload, 1) := by decide +kernel
theorem dX10_way_32 : decode cX10_way 32 = .ok (.istore 4, 2) := by decide +kernel
theorem dX10_way_34 : decode cX10_way 34 = .ok (.iload 4, 2) := by decide +kernel
theorem dX10_way_36 : decode cX10_way 36 = .ok (.ldc 183, 2) := by decide +kernel
theorem dX10_way_38 : decode cX10_way 38 = .ok (.if_icmp .lt 6, 3) := by decide +kernel
theorem dX10_way_41 : decode cX10_way 41 = .ok (.bipush (-4), 2) := by decide +kernel
theorem dX10_way_43 : decode cX10_way 43 = .ok (.ireturn, 1) := by decide +kernel
theorem dX10_way_44 : decode cX10_way 44 = .ok (.iload_n 2, 1) := by decide +kernel
theorem dX10_way_45 : decode cX10_way 45 = .ok (.ifCond .ge 25, 3) := by decide +kernel
theorem dX10_way_48 : decode cX10_way 48 = .ok (.iload_n 2, 1) := by decide +kernel
theorem dX10_way_49 : decode cX10_way 49 = .ok (.bipush (-2), 2) := by decide +kernel
theorem dX10_way_51 : decode cX10_way 51 = .ok (.if_icmp .ne 12, 3) := by decide +kernel
theorem dX10_way_54 : decode cX10_way 54 = .ok (.iload 4, 2) := by decide +kernel
theorem dX10_way_56 : decode cX10_way 56 = .ok (.sipush 1000, 3) := by decide +kernel
theorem dX10_way_59 : decode cX10_way 59 = .ok (.idiv, 1) := by decide +kernel
theorem dX10_way_60 : decode cX10_way 60 = .ok (.goto 9, 3) := by decide +kernel
theorem dX10_way_63 : decode cX10_way 63 = .ok (.iload 4, 2) := by decide +kernel
theorem dX10_way_65 : decode cX10_way 65 = .ok (.sipush 1000, 3) := by decide +kernel
theorem dX10_way_68 : decode cX10_way 68 = .ok (.irem, 1) := by decide +kernel
theorem dX10_way_69 : decode cX10_way 69 = .ok (.ireturn, 1) := by decide +kernel
theorem dX10_way_70 : decode cX10_way 70 = .ok (.iconst 0, 1) := by decide +kernel
theorem dX10_way_71 : decode cX10_way 71 = .ok (.istore 5, 2) := by decide +kernel
theorem dX10_way_73 : decode cX10_way 73 = .ok (.aload_n 0, 1) := by decide +kernel
theorem dX10_way_74 : decode cX10_way 74 = .ok (.getfield 35, 3) := by decide +kernel
theorem dX10_way_77 : decode cX10_way 77 = .ok (.iload_n 3, 1) := by decide +kernel
theorem dX10_way_78 : decode cX10_way 78 = .ok (.iaload, 1) := by decide +kernel
theorem dX10_way_79 : decode cX10_way 79 = .ok (.ifCond .le 51, 3) := by decide +kernel
theorem dX10_way_82 : decode cX10_way 82 = .ok (.iconst 0, 1) := by decide +kernel
theorem dX10_way_83 : decode cX10_way 83 = .ok (.istore 6, 2) := by decide +kernel
theorem dX10_way_85 : decode cX10_way 85 = .ok (.aload_n 0, 1) := by decide +kernel
theorem dX10_way_86 : decode cX10_way 86 = .ok (.iload_n 3, 1) := by decide +kernel
theorem dX10_way_87 : decode cX10_way 87 = .ok (.iload 6, 2) := by decide +kernel
theorem dX10_way_89 : decode cX10_way 89 = .ok (.invokevirtual 184, 3) := by decide +kernel
theorem dX10_way_92 : decode cX10_way 92 = .ok (.aload_n 0, 1) := by decide +kernel
theorem dX10_way_93 : decode cX10_way 93 = .ok (.getfield 35, 3) := by decide +kernel
theorem dX10_way_96 : decode cX10_way 96 = .ok (.iload_n 3, 1) := by decide +kernel
theorem dX10_way_97 : decode cX10_way 97 = .ok (.iaload, 1) := by decide +kernel
theorem dX10_way_98 : decode cX10_way 98 = .ok (.if_icmp .eq 9, 3) := by decide +kernel
theorem dX10_way_101 : decode cX10_way 101 = .ok (.iinc 6 1, 3) := by decide +kernel
theorem dX10_way_104 : decode cX10_way 104 = .ok (.goto (-19), 3) := by decide +kernel
theorem dX10_way_107 : decode cX10_way 107 = .ok (.iload 5, 2) := by decide +kernel
theorem dX10_way_109 : decode cX10_way 109 = .ok (.iload_n 2, 1) := by decide +kernel
theorem dX10_way_110 : decode cX10_way 110 = .ok (.if_icmp .ne 6, 3) := by decide +kernel
theorem dX10_way_113 : decode cX10_way 113 = .ok (.iload 6, 2) := by decide +kernel
theorem dX10_way_115 : decode cX10_way 115 = .ok (.ireturn, 1) := by decide +kernel
theorem dX10_way_116 : decode cX10_way 116 = .ok (.aload_n 0, 1) := by decide +kernel
theorem dX10_way_117 : decode cX10_way 117 = .ok (.iload_n 3, 1) := by decide +kernel
theorem dX10_way_118 : decode cX10_way 118 = .ok (.iload 6, 2) := by decide +kernel
theorem dX10_way_120 : decode cX10_way 120 = .ok (.invokevirtual 180, 3) := by decide +kernel
theorem dX10_way_123 : decode cX10_way 123 = .ok (.istore_n 3, 1) := by decide +kernel
theorem dX10_way_124 : decode cX10_way 124 = .ok (.iinc 5 1, 3) := by decide +kernel
theorem dX10_way_127 : decode cX10_way 127 = .ok (.goto (-54), 3) := by decide +kernel
theorem dX10_way_130 : decode cX10_way 130 = .ok (.bipush (-4), 2) := by decide +kernel
theorem dX10_way_132 : decode cX10_way 132 = .ok (.ireturn, 1) := by decide +kernel
theorem dX10_tour_0 : decode cX10_tour 0 = .ok (.aload_n 0, 1) := by decide +kernel
theorem dX10_tour_1 : decode cX10_tour 1 = .ok (.invokevirtual 159, 3) := by decide +kernel
theorem dX10_tour_4 : decode cX10_tour 4 = .ok (.ifCond .ne 6, 3) := by decide +kernel
theorem dX10_tour_7 : decode cX10_tour 7 = .ok (.bipush (-2), 2) := by decide +kernel
theorem dX10_tour_9 : decode cX10_tour 9 = .ok (.ireturn, 1) := by decide +kernel
theorem dX10_tour_10 : decode cX10_tour 10 = .ok (.aload_n 0, 1) := by decide +kernel
theorem dX10_tour_11 : decode cX10_tour 11 = .ok (.invokevirtual 191, 3) := by decide +kernel
theorem dX10_tour_14 : decode cX10_tour 14 = .ok (.istore_n 1, 1) := by decide +kernel
theorem dX10_tour_15 : decode cX10_tour 15 = .ok (.iconst 0, 1) := by decide +kernel
theorem dX10_tour_16 : decode cX10_tour 16 = .ok (.istore_n 2, 1) := by decide +kernel
theorem dX10_tour_17 : decode cX10_tour 17 = .ok (.iload_n 2, 1) := by decide +kernel
theorem dX10_tour_18 : decode cX10_tour 18 = .ok (.sipush 16384, 3) := by decide +kernel
theorem dX10_tour_21 : decode cX10_tour 21 = .ok (.if_icmp .ge 16, 3) := by decide +kernel
theorem dX10_tour_24 : decode cX10_tour 24 = .ok (.aload_n 0, 1) := by decide +kernel
theorem dX10_tour_25 : decode cX10_tour 25 = .ok (.getfield 31, 3) := by decide +kernel
theorem dX10_tour_28 : decode cX10_tour 28 = .ok (.iload_n 2, 1) := by decide +kernel
theorem dX10_tour_29 : decode cX10_tour 29 = .ok (.iconst 0, 1) := by decide +kernel
theorem dX10_tour_30 : decode cX10_tour 30 = .ok (.bastore, 1) := by decide +kernel
theorem dX10_tour_31 : decode cX10_tour 31 = .ok (.iinc 2 1, 3) := by decide +kernel
theorem dX10_tour_34 : decode cX10_tour 34 = .ok (.goto (-17), 3) := by decide +kernel
theorem dX10_tour_37 : decode cX10_tour 37 = .ok (.iconst 0, 1) := by decide +kernel
theorem dX10_tour_38 : decode cX10_tour 38 = .ok (.istore_n 2, 1) := by decide +kernel
theorem dX10_tour_39 : decode cX10_tour 39 = .ok (.iconst 1, 1) := by decide +kernel
theorem dX10_tour_40 : decode cX10_tour 40 = .ok (.istore_n 3, 1) := by decide +kernel
theorem dX10_tour_41 : decode cX10_tour 41 = .ok (.aload_n 0, 1) := by decide +kernel
theorem dX10_tour_42 : decode cX10_tour 42 = .ok (.getfield 28, 3) := by decide +kernel
theorem dX10_tour_45 : decode cX10_tour 45 = .ok (.iconst 0, 1) := by decide +kernel
theorem dX10_tour_46 : decode cX10_tour 46 = .ok (.sipush 256, 3) := by decide +kernel
theorem dX10_tour_49 : decode cX10_tour 49 = .ok (.aload_n 0, 1) := by decide +kernel
theorem dX10_tour_50 : decode cX10_tour 50 = .ok (.invokevirtual 177, 3) := by decide +kernel
theorem dX10_tour_53 : decode cX10_tour 53 = .ok (.imul, 1) := by decide +kernel
theorem dX10_tour_54 : decode cX10_tour 54 = .ok (.iconst 1, 1) := by decide +kernel
theorem dX10_tour_55 : decode cX10_tour 55 = .ok (.aload_n 0, 1) := by decide +kernel
theorem dX10_tour_56 : decode cX10_tour 56 = .ok (.getfield 7, 3) := by decide +kernel
theorem dX10_tour_59 : decode cX10_tour 59 = .ok (.iconst 1, 1) := by decide +kernel
theorem dX10_tour_60 : decode cX10_tour 60 = .ok (.iaload, 1) := by decide +kernel
theorem dX10_tour_61 : decode cX10_tour 61 = .ok (.ishl, 1) := by decide +kernel
theorem dX10_tour_62 : decode cX10_tour 62 = .ok (.iadd, 1) := by decide +kernel
theorem dX10_tour_63 : decode cX10_tour 63 = .ok (.iastore, 1) := by decide +kernel
theorem dX10_tour_64 : decode cX10_tour 64 = .ok (.aload_n 0, 1) := by decide +kernel
theorem dX10_tour_65 : decode cX10_tour 65 = .ok (.getfield 31, 3) := by decide +kernel
theorem dX10_tour_68 : decode cX10_tour 68 = .ok (.aload_n 0, 1) := by decide +kernel
theorem dX10_tour_69 : decode cX10_tour 69 = .ok (.getfield 28, 3) := by decide +kernel
theorem dX10_tour_72 : decode cX10_tour 72 = .ok (.iconst 0, 1) := by decide +kernel
theorem dX10_tour_73 : decode cX10_tour 73 = .ok (.iaload, 1) := by decide +kernel
theorem dX10_tour_74 : decode cX10_tour 74 = .ok (.iconst 1, 1) := by decide +kernel
theorem dX10_tour_75 : decode cX10_tour 75 = .ok (.bastore, 1) := by decide +kernel
theorem dX10_tour_76 : decode cX10_tour 76 = .ok (.iconst 0, 1) := by decide +kernel
theorem dX10_tour_77 : decode cX10_tour 77 = .ok (.istore 4, 2) := by decide +kernel
theorem dX10_tour_79 : decode cX10_tour 79 = .ok (.iload_n 2, 1) := by decide +kernel
theorem dX10_tour_80 : decode cX10_tour 80 = .ok (.iload_n 3, 1) := by decide +kernel
theorem dX10_tour_81 : decode cX10_tour 81 = .ok (.if_icmp .ge 158, 3) := by decide +kernel
theorem dX10_tour_84 : decode cX10_tour 84 = .ok (.iload_n 3, 1) := by decide +kernel
theorem dX10_tour_85 : decode cX10_tour 85 = .ok (.istore 5, 2) := by decide +kernel
theorem dX10_tour_87 : decode cX10_tour 87 = .ok (.iload_n 2, 1) := by decide +kernel
theorem dX10_tour_88 : decode cX10_tour 88 = .ok (.istore 6, 2) := by decide +kernel
theorem dX10_tour_90 : decode cX10_tour 90 = .ok (.iload 6, 2) := by decide +kernel
theorem dX10_tour_92 : decode cX10_tour 92 = .ok (.iload 5, 2) := by decide +kernel
theorem dX10_tour_94 : decode cX10_tour 94 = .ok (.if_icmp .ge 136, 3) := by decide +kernel
theorem dX10_tour_97 : decode cX10_tour 97 = .ok (.aload_n 0, 1) := by decide +kernel
theorem dX10_tour_98 : decode cX10_tour 98 = .ok (.getfield 28, 3) := by decide +kernel
theorem dX10_tour_101 : decode cX10_tour 101 = .ok (.iload 6, 2) := by decide +kernel
theorem dX10_tour_103 : decode cX10_tour 103 = .ok (.iaload, 1) := by decide +kernel
theorem dX10_tour_104 : decode cX10_tour 104 = .ok (.sipush 256, 3) := by decide +kernel
theorem dX10_tour_107 : decode cX10_tour 107 = .ok (.irem, 1) := by decide +kernel
theorem dX10_tour_108 : decode cX10_tour 108 = .ok (.iload_n 1, 1) := by decide +kernel
theorem dX10_tour_109 : decode cX10_tour 109 = .ok (.if_icmp .ne 6, 3) := by decide +kernel
theorem dX10_tour_112 : decode cX10_tour 112 = .ok (.iload 4, 2) := by decide +kernel
theorem dX10_tour_114 : decode cX10_tour 114 = .ok (.ireturn, 1) := by decide +kernel
theorem dX10_tour_115 : decode cX10_tour 115 = .ok (.iconst 0, 1) := by decide +kernel
theorem dX10_tour_116 : decode cX10_tour 116 = .ok (.istore 7, 2) := by decide +kernel
theorem dX10_tour_118 : decode cX10_tour 118 = .ok (.iload 7, 2) := by decide +kernel
theorem dX10_tour_120 : decode cX10_tour 120 = .ok (.iconst 3, 1) := by decide +kernel
theorem dX10_tour_121 : decode cX10_tour 121 = .ok (.if_icmp .ge 103, 3) := by decide +kernel
theorem dX10_tour_124 : decode cX10_tour 124 = .ok (.aload_n 0, 1) := by decide +kernel
theorem dX10_tour_125 : decode cX10_tour 125 = .ok (.aload_n 0, 1) := by decide +kernel
theorem dX10_tour_126 : decode cX10_tour 126 = .ok (.getfield 28, 3) := by decide +kernel
theorem dX10_tour_129 : decode cX10_tour 129 = .ok (.iload 6, 2) := by decide +kernel
theorem dX10_tour_131 : decode cX10_tour 131 = .ok (.iaload, 1) := by decide +kernel
theorem dX10_tour_132 : decode cX10_tour 132 = .ok (.sipush 256, 3) := by decide +kernel
theorem dX10_tour_135 : decode cX10_tour 135 = .ok (.idiv, 1) := by decide +kernel
theorem dX10_tour_136 : decode cX10_tour 136 = .ok (.iload 7, 2) := by decide +kernel
theorem dX10_tour_138 : decode cX10_tour 138 = .ok (.invokevirtual 180, 3) := by decide +kernel
theorem dX10_tour_141 : decode cX10_tour 141 = .ok (.istore 8, 2) := by decide +kernel
theorem dX10_tour_143 : decode cX10_tour 143 = .ok (.iload 8, 2) := by decide +kernel
theorem dX10_tour_145 : decode cX10_tour 145 = .ok (.bipush (-4), 2) := by decide +kernel
theorem dX10_tour_147 : decode cX10_tour 147 = .ok (.if_icmp .ne 7, 3) := by decide +kernel
theorem dX10_tour_150 : decode cX10_tour 150 = .ok (.iconst 0, 1) := by decide +kernel
theorem dX10_tour_151 : decode cX10_tour 151 = .ok (.goto 29, 3) := by decide +kernel
theorem dX10_tour_154 : decode cX10_tour 154 = .ok (.sipush 256, 3) := by decide +kernel
theorem dX10_tour_157 : decode cX10_tour 157 = .ok (.iload 8, 2) := by decide +kernel
theorem dX10_tour_159 : decode cX10_tour 159 = .ok (.imul, 1) := by decide +kernel
theorem dX10_tour_160 : decode cX10_tour 160 = .ok (.aload_n 0, 1) := by decide +kernel
theorem dX10_tour_161 : decode cX10_tour 161 = .ok (.getfield 28, 3) := by decide +kernel
theorem dX10_tour_164 : decode cX10_tour 164 = .ok (.iload 6, 2) := by decide +kernel
theorem dX10_tour_166 : decode cX10_tour 166 = .ok (.iaload, 1) := by decide +kernel
theorem dX10_tour_167 : decode cX10_tour 167 = .ok (.sipush 256, 3) := by decide +kernel
theorem dX10_tour_170 : decode cX10_tour 170 = .ok (.irem, 1) := by decide +kernel
theorem dX10_tour_171 : decode cX10_tour 171 = .ok (.iconst 1, 1) := by decide +kernel
theorem dX10_tour_172 : decode cX10_tour 172 = .ok (.iload 8, 2) := by decide +kernel
theorem dX10_tour_174 : decode cX10_tour 174 = .ok (.bipush 8, 2) := by decide +kernel
theorem dX10_tour_176 : decode cX10_tour 176 = .ok (.idiv, 1) := by decide +kernel
theorem dX10_tour_177 : decode cX10_tour 177 = .ok (.ishl, 1) := by decide +kernel
theorem dX10_tour_178 : decode cX10_tour 178 = .ok (.ior, 1) := by decide +kernel
theorem dX10_tour_179 : decode cX10_tour 179 = .ok (.iadd, 1) := by decide +kernel
theorem dX10_tour_180 : decode cX10_tour 180 = .ok (.istore 9, 2) := by decide +kernel
theorem dX10_tour_182 : decode cX10_tour 182 = .ok (.iload 8, 2) := by decide +kernel
theorem dX10_tour_184 : decode cX10_tour 184 = .ok (.bipush (-4), 2) := by decide +kernel
theorem dX10_tour_186 : decode cX10_tour 186 = .ok (.if_icmp .eq 32, 3) := by decide +kernel
theorem dX10_tour_189 : decode cX10_tour 189 = .ok (.aload_n 0, 1) := by decide +kernel
theorem dX10_tour_190 : decode cX10_tour 190 = .ok (.getfield 31, 3) := by decide +kernel
theorem dX10_tour_193 : decode cX10_tour 193 = .ok (.iload 9, 2) := by decide +kernel
theorem dX10_tour_195 : decode cX10_tour 195 = .ok (.baload, 1) := by decide +kernel
theorem dX10_tour_196 : decode cX10_tour 196 = .ok (.ifCond .ne 22, 3) := by decide +kernel
theorem dX10_tour_199 : decode cX10_tour 199 = .ok (.aload_n 0, 1) := by decide +kernel
theorem dX10_tour_200 : decode cX10_tour 200 = .ok (.getfield 31, 3) := by decide +kernel
theorem dX10_tour_203 : decode cX10_tour 203 = .ok (.iload 9, 2) := by decide +kernel
theorem dX10_tour_205 : decode cX10_tour 205 = .ok (.iconst 1, 1) := by decide +kernel
theorem dX10_tour_206 : decode cX10_tour 206 = .ok (.bastore, 1) := by decide +kernel
theorem dX10_tour_207 : decode cX10_tour 207 = .ok (.aload_n 0, 1) := by decide +kernel
theorem dX10_tour_208 : decode cX10_tour 208 = .ok (.getfield 28, 3) := by decide +kernel
theorem dX10_tour_211 : decode cX10_tour 211 = .ok (.iload_n 3, 1) := by decide +kernel
theorem dX10_tour_212 : decode cX10_tour 212 = .ok (.iload 9, 2) := by decide +kernel
theorem dX10_tour_214 : decode cX10_tour 214 = .ok (.iastore, 1) := by decide +kernel
theorem dX10_tour_215 : decode cX10_tour 215 = .ok (.iinc 3 1, 3) := by decide +kernel
theorem dX10_tour_218 : decode cX10_tour 218 = .ok (.iinc 7 1, 3) := by decide +kernel
theorem dX10_tour_221 : decode cX10_tour 221 = .ok (.goto (-103), 3) := by decide +kernel
theorem dX10_tour_224 : decode cX10_tour 224 = .ok (.iinc 6 1, 3) := by decide +kernel
theorem dX10_tour_227 : decode cX10_tour 227 = .ok (.goto (-137), 3) := by decide +kernel
theorem dX10_tour_230 : decode cX10_tour 230 = .ok (.iload 5, 2) := by decide +kernel
theorem dX10_tour_232 : decode cX10_tour 232 = .ok (.istore_n 2, 1) := by decide +kernel
theorem dX10_tour_233 : decode cX10_tour 233 = .ok (.iinc 4 1, 3) := by decide +kernel
theorem dX10_tour_236 : decode cX10_tour 236 = .ok (.goto (-157), 3) := by decide +kernel
theorem dX10_tour_239 : decode cX10_tour 239 = .ok (.bipush (-4), 2) := by decide +kernel
theorem dX10_tour_241 : decode cX10_tour 241 = .ok (.ireturn, 1) := by decide +kernel
theorem dX10_byTurns_0 : decode cX10_byTurns 0 = .ok (.aload_n 0, 1) := by decide +kernel
theorem dX10_byTurns_1 : decode cX10_byTurns 1 = .ok (.iload_n 1, 1) := by decide +kernel
theorem dX10_byTurns_2 : decode cX10_byTurns 2 = .ok (.iload_n 2, 1) := by decide +kernel
theorem dX10_byTurns_3 : decode cX10_byTurns 3 = .ok (.invokevirtual 180, 3) := by decide +kernel
theorem dX10_byTurns_6 : decode cX10_byTurns 6 = .ok (.bipush (-4), 2) := by decide +kernel
theorem dX10_byTurns_8 : decode cX10_byTurns 8 = .ok (.if_icmp .eq 7, 3) := by decide +kernel
theorem dX10_byTurns_11 : decode cX10_byTurns 11 = .ok (.iload_n 2, 1) := by decide +kernel
theorem dX10_byTurns_12 : decode cX10_byTurns 12 = .ok (.goto 23, 3) := by decide +kernel
theorem dX10_byTurns_15 : decode cX10_byTurns 15 = .ok (.aload_n 0, 1) := by decide +kernel
theorem dX10_byTurns_16 : decode cX10_byTurns 16 = .ok (.iload_n 1, 1) := by decide +kernel
theorem dX10_byTurns_17 : decode cX10_byTurns 17 = .ok (.iconst 1, 1) := by decide +kernel
theorem dX10_byTurns_18 : decode cX10_byTurns 18 = .ok (.iload_n 2, 1) := by decide +kernel
theorem dX10_byTurns_19 : decode cX10_byTurns 19 = .ok (.isub, 1) := by decide +kernel
theorem dX10_byTurns_20 : decode cX10_byTurns 20 = .ok (.invokevirtual 180, 3) := by decide +kernel
theorem dX10_byTurns_23 : decode cX10_byTurns 23 = .ok (.bipush (-4), 2) := by decide +kernel
theorem dX10_byTurns_25 : decode cX10_byTurns 25 = .ok (.if_icmp .eq 9, 3) := by decide +kernel
theorem dX10_byTurns_28 : decode cX10_byTurns 28 = .ok (.iconst 1, 1) := by decide +kernel
theorem dX10_byTurns_29 : decode cX10_byTurns 29 = .ok (.iload_n 2, 1) := by decide +kernel
theorem dX10_byTurns_30 : decode cX10_byTurns 30 = .ok (.isub, 1) := by decide +kernel
theorem dX10_byTurns_31 : decode cX10_byTurns 31 = .ok (.goto 4, 3) := by decide +kernel
theorem dX10_byTurns_34 : decode cX10_byTurns 34 = .ok (.iconst 2, 1) := by decide +kernel
theorem dX10_byTurns_35 : decode cX10_byTurns 35 = .ok (.istore_n 3, 1) := by decide +kernel
theorem dX10_byTurns_36 : decode cX10_byTurns 36 = .ok (.aload_n 0, 1) := by decide +kernel
theorem dX10_byTurns_37 : decode cX10_byTurns 37 = .ok (.iload_n 1, 1) := by decide +kernel
theorem dX10_byTurns_38 : decode cX10_byTurns 38 = .ok (.iload_n 3, 1) := by decide +kernel
theorem dX10_byTurns_39 : decode cX10_byTurns 39 = .ok (.invokevirtual 180, 3) := by decide +kernel
theorem dX10_byTurns_42 : decode cX10_byTurns 42 = .ok (.ireturn, 1) := by decide +kernel
theorem dX10_round_0 : decode cX10_round 0 = .ok (.iload_n 1, 1) := by decide +kernel
theorem dX10_round_1 : decode cX10_round 1 = .ok (.i2l, 1) := by decide +kernel
theorem dX10_round_2 : decode cX10_round 2 = .ok (.lconst 0, 1) := by decide +kernel
theorem dX10_round_3 : decode cX10_round 3 = .ok (.lconst 1, 1) := by decide +kernel
theorem dX10_round_4 : decode cX10_round 4 = .ok (.invokestatic 77, 3) := by decide +kernel
theorem dX10_round_7 : decode cX10_round 7 = .ok (.ifCond .ne 5, 3) := by decide +kernel
theorem dX10_round_10 : decode cX10_round 10 = .ok (.iconst (-1), 1) := by decide +kernel
theorem dX10_round_11 : decode cX10_round 11 = .ok (.ireturn, 1) := by decide +kernel
theorem dX10_round_12 : decode cX10_round 12 = .ok (.aload_n 0, 1) := by decide +kernel
theorem dX10_round_13 : decode cX10_round 13 = .ok (.invokevirtual 159, 3) := by decide +kernel
theorem dX10_round_16 : decode cX10_round 16 = .ok (.ifCond .ne 6, 3) := by decide +kernel
theorem dX10_round_19 : decode cX10_round 19 = .ok (.bipush (-2), 2) := by decide +kernel
theorem dX10_round_21 : decode cX10_round 21 = .ok (.ireturn, 1) := by decide +kernel
theorem dX10_round_22 : decode cX10_round 22 = .ok (.iconst 0, 1) := by decide +kernel
theorem dX10_round_23 : decode cX10_round 23 = .ok (.istore_n 2, 1) := by decide +kernel
theorem dX10_round_24 : decode cX10_round 24 = .ok (.iload_n 2, 1) := by decide +kernel
theorem dX10_round_25 : decode cX10_round 25 = .ok (.sipush 128, 3) := by decide +kernel
theorem dX10_round_28 : decode cX10_round 28 = .ok (.if_icmp .ge 16, 3) := by decide +kernel
theorem dX10_round_31 : decode cX10_round 31 = .ok (.aload_n 0, 1) := by decide +kernel
theorem dX10_round_32 : decode cX10_round 32 = .ok (.getfield 38, 3) := by decide +kernel
theorem dX10_round_35 : decode cX10_round 35 = .ok (.iload_n 2, 1) := by decide +kernel
theorem dX10_round_36 : decode cX10_round 36 = .ok (.iconst (-1), 1) := by decide +kernel
theorem dX10_round_37 : decode cX10_round 37 = .ok (.iastore, 1) := by decide +kernel
theorem dX10_round_38 : decode cX10_round 38 = .ok (.iinc 2 1, 3) := by decide +kernel
theorem dX10_round_41 : decode cX10_round 41 = .ok (.goto (-17), 3) := by decide +kernel
theorem dX10_round_44 : decode cX10_round 44 = .ok (.aload_n 0, 1) := by decide +kernel
theorem dX10_round_45 : decode cX10_round 45 = .ok (.invokevirtual 177, 3) := by decide +kernel
theorem dX10_round_48 : decode cX10_round 48 = .ok (.istore_n 2, 1) := by decide +kernel
theorem dX10_round_49 : decode cX10_round 49 = .ok (.iconst 0, 1) := by decide +kernel
theorem dX10_round_50 : decode cX10_round 50 = .ok (.istore_n 3, 1) := by decide +kernel
theorem dX10_round_51 : decode cX10_round 51 = .ok (.aload_n 0, 1) := by decide +kernel
theorem dX10_round_52 : decode cX10_round 52 = .ok (.getfield 38, 3) := by decide +kernel
theorem dX10_round_55 : decode cX10_round 55 = .ok (.iconst 2, 1) := by decide +kernel
theorem dX10_round_56 : decode cX10_round 56 = .ok (.iload_n 2, 1) := by decide +kernel
theorem dX10_round_57 : decode cX10_round 57 = .ok (.imul, 1) := by decide +kernel
theorem dX10_round_58 : decode cX10_round 58 = .ok (.iload_n 3, 1) := by decide +kernel
theorem dX10_round_59 : decode cX10_round 59 = .ok (.iconst 2, 1) := by decide +kernel
theorem dX10_round_60 : decode cX10_round 60 = .ok (.irem, 1) := by decide +kernel
theorem dX10_round_61 : decode cX10_round 61 = .ok (.iadd, 1) := by decide +kernel
theorem dX10_round_62 : decode cX10_round 62 = .ok (.iaload, 1) := by decide +kernel
theorem dX10_round_63 : decode cX10_round 63 = .ok (.ifCond .ge 31, 3) := by decide +kernel
theorem dX10_round_66 : decode cX10_round 66 = .ok (.aload_n 0, 1) := by decide +kernel
theorem dX10_round_67 : decode cX10_round 67 = .ok (.getfield 38, 3) := by decide +kernel
theorem dX10_round_70 : decode cX10_round 70 = .ok (.iconst 2, 1) := by decide +kernel
theorem dX10_round_71 : decode cX10_round 71 = .ok (.iload_n 2, 1) := by decide +kernel
theorem dX10_round_72 : decode cX10_round 72 = .ok (.imul, 1) := by decide +kernel
theorem dX10_round_73 : decode cX10_round 73 = .ok (.iload_n 3, 1) := by decide +kernel
theorem dX10_round_74 : decode cX10_round 74 = .ok (.iconst 2, 1) := by decide +kernel
theorem dX10_round_75 : decode cX10_round 75 = .ok (.irem, 1) := by decide +kernel
theorem dX10_round_76 : decode cX10_round 76 = .ok (.iadd, 1) := by decide +kernel
theorem dX10_round_77 : decode cX10_round 77 = .ok (.iload_n 3, 1) := by decide +kernel
theorem dX10_round_78 : decode cX10_round 78 = .ok (.iastore, 1) := by decide +kernel
theorem dX10_round_79 : decode cX10_round 79 = .ok (.aload_n 0, 1) := by decide +kernel
theorem dX10_round_80 : decode cX10_round 80 = .ok (.iload_n 2, 1) := by decide +kernel
theorem dX10_round_81 : decode cX10_round 81 = .ok (.iload_n 3, 1) := by decide +kernel
theorem dX10_round_82 : decode cX10_round 82 = .ok (.iconst 2, 1) := by decide +kernel
theorem dX10_round_83 : decode cX10_round 83 = .ok (.irem, 1) := by decide +kernel
theorem dX10_round_84 : decode cX10_round 84 = .ok (.invokevirtual 194, 3) := by decide +kernel
theorem dX10_round_87 : decode cX10_round 87 = .ok (.istore_n 2, 1) := by decide +kernel
theorem dX10_round_88 : decode cX10_round 88 = .ok (.iinc 3 1, 3) := by decide +kernel
theorem dX10_round_91 : decode cX10_round 91 = .ok (.goto (-40), 3) := by decide +kernel
theorem dX10_round_94 : decode cX10_round 94 = .ok (.aload_n 0, 1) := by decide +kernel
theorem dX10_round_95 : decode cX10_round 95 = .ok (.getfield 38, 3) := by decide +kernel
theorem dX10_round_98 : decode cX10_round 98 = .ok (.iconst 2, 1) := by decide +kernel
theorem dX10_round_99 : decode cX10_round 99 = .ok (.iload_n 2, 1) := by decide +kernel
theorem dX10_round_100 : decode cX10_round 100 = .ok (.imul, 1) := by decide +kernel
theorem dX10_round_101 : decode cX10_round 101 = .ok (.iload_n 3, 1) := by decide +kernel
theorem dX10_round_102 : decode cX10_round 102 = .ok (.iconst 2, 1) := by decide +kernel
theorem dX10_round_103 : decode cX10_round 103 = .ok (.irem, 1) := by decide +kernel
theorem dX10_round_104 : decode cX10_round 104 = .ok (.iadd, 1) := by decide +kernel
theorem dX10_round_105 : decode cX10_round 105 = .ok (.iaload, 1) := by decide +kernel
theorem dX10_round_106 : decode cX10_round 106 = .ok (.istore 4, 2) := by decide +kernel
theorem dX10_round_108 : decode cX10_round 108 = .ok (.iload_n 1, 1) := by decide +kernel
theorem dX10_round_109 : decode cX10_round 109 = .ok (.ifCond .ne 8, 3) := by decide +kernel
theorem dX10_round_112 : decode cX10_round 112 = .ok (.iload 4, 2) := by decide +kernel
theorem dX10_round_114 : decode cX10_round 114 = .ok (.goto 7, 3) := by decide +kernel
theorem dX10_round_117 : decode cX10_round 117 = .ok (.iload_n 3, 1) := by decide +kernel
theorem dX10_round_118 : decode cX10_round 118 = .ok (.iload 4, 2) := by decide +kernel
theorem dX10_round_120 : decode cX10_round 120 = .ok (.isub, 1) := by decide +kernel
theorem dX10_round_121 : decode cX10_round 121 = .ok (.ireturn, 1) := by decide +kernel
theorem dX10_part_0 : decode cX10_part 0 = .ok (.lload_n 0, 1) := by decide +kernel
theorem dX10_part_1 : decode cX10_part 1 = .ok (.lstore 5, 2) := by decide +kernel
theorem dX10_part_3 : decode cX10_part 3 = .ok (.lload_n 2, 1) := by decide +kernel
theorem dX10_part_4 : decode cX10_part 4 = .ok (.lstore 7, 2) := by decide +kernel
theorem dX10_part_6 : decode cX10_part 6 = .ok (.lload 7, 2) := by decide +kernel
theorem dX10_part_8 : decode cX10_part 8 = .ok (.lconst 0, 1) := by decide +kernel
theorem dX10_part_9 : decode cX10_part 9 = .ok (.lcmp, 1) := by decide +kernel
theorem dX10_part_10 : decode cX10_part 10 = .ok (.ifCond .eq 21, 3) := by decide +kernel
theorem dX10_part_13 : decode cX10_part 13 = .ok (.lload 5, 2) := by decide +kernel
theorem dX10_part_15 : decode cX10_part 15 = .ok (.lload 7, 2) := by decide +kernel
theorem dX10_part_17 : decode cX10_part 17 = .ok (.lrem, 1) := by decide +kernel
theorem dX10_part_18 : decode cX10_part 18 = .ok (.lstore 9, 2) := by decide +kernel
theorem dX10_part_20 : decode cX10_part 20 = .ok (.lload 7, 2) := by decide +kernel
theorem dX10_part_22 : decode cX10_part 22 = .ok (.lstore 5, 2) := by decide +kernel
theorem dX10_part_24 : decode cX10_part 24 = .ok (.lload 9, 2) := by decide +kernel
theorem dX10_part_26 : decode cX10_part 26 = .ok (.lstore 7, 2) := by decide +kernel
theorem dX10_part_28 : decode cX10_part 28 = .ok (.goto (-22), 3) := by decide +kernel
theorem dX10_part_31 : decode cX10_part 31 = .ok (.iload 4, 2) := by decide +kernel
theorem dX10_part_33 : decode cX10_part 33 = .ok (.ifCond .ne 7, 3) := by decide +kernel
theorem dX10_part_36 : decode cX10_part 36 = .ok (.lload_n 0, 1) := by decide +kernel
theorem dX10_part_37 : decode cX10_part 37 = .ok (.goto 4, 3) := by decide +kernel
theorem dX10_part_40 : decode cX10_part 40 = .ok (.lload_n 2, 1) := by decide +kernel
theorem dX10_part_41 : decode cX10_part 41 = .ok (.lload 5, 2) := by decide +kernel
theorem dX10_part_43 : decode cX10_part 43 = .ok (.ldiv, 1) := by decide +kernel
theorem dX10_part_44 : decode cX10_part 44 = .ok (.l2i, 1) := by decide +kernel
theorem dX10_part_45 : decode cX10_part 45 = .ok (.ireturn, 1) := by decide +kernel
theorem dX10_hand_0 : decode cX10_hand 0 = .ok (.aload_n 0, 1) := by decide +kernel
theorem dX10_hand_1 : decode cX10_hand 1 = .ok (.iload_n 1, 1) := by decide +kernel
theorem dX10_hand_2 : decode cX10_hand 2 = .ok (.invokevirtual 136, 3) := by decide +kernel
theorem dX10_hand_5 : decode cX10_hand 5 = .ok (.ifCond .eq 38, 3) := by decide +kernel
theorem dX10_hand_8 : decode cX10_hand 8 = .ok (.iload_n 2, 1) := by decide +kernel
theorem dX10_hand_9 : decode cX10_hand 9 = .ok (.i2l, 1) := by decide +kernel
theorem dX10_hand_10 : decode cX10_hand 10 = .ok (.lconst 0, 1) := by decide +kernel
theorem dX10_hand_11 : decode cX10_hand 11 = .ok (.ldc2_w 197, 3) := by decide +kernel
theorem dX10_hand_14 : decode cX10_hand 14 = .ok (.invokestatic 77, 3) := by decide +kernel
theorem dX10_hand_17 : decode cX10_hand 17 = .ok (.ifCond .eq 26, 3) := by decide +kernel
theorem dX10_hand_20 : decode cX10_hand 20 = .ok (.iload_n 3, 1) := by decide +kernel
theorem dX10_hand_21 : decode cX10_hand 21 = .ok (.i2l, 1) := by decide +kernel
theorem dX10_hand_22 : decode cX10_hand 22 = .ok (.lconst 0, 1) := by decide +kernel
theorem dX10_hand_23 : decode cX10_hand 23 = .ok (.ldc2_w 199, 3) := by decide +kernel
theorem dX10_hand_26 : decode cX10_hand 26 = .ok (.invokestatic 77, 3) := by decide +kernel
theorem dX10_hand_29 : decode cX10_hand 29 = .ok (.ifCond .eq 14, 3) := by decide +kernel
theorem dX10_hand_32 : decode cX10_hand 32 = .ok (.iload 4, 2) := by decide +kernel
theorem dX10_hand_34 : decode cX10_hand 34 = .ok (.i2l, 1) := by decide +kernel
theorem dX10_hand_35 : decode cX10_hand 35 = .ok (.lconst 0, 1) := by decide +kernel
theorem dX10_hand_36 : decode cX10_hand 36 = .ok (.lconst 1, 1) := by decide +kernel
theorem dX10_hand_37 : decode cX10_hand 37 = .ok (.invokestatic 77, 3) := by decide +kernel
theorem dX10_hand_40 : decode cX10_hand 40 = .ok (.ifCond .ne 5, 3) := by decide +kernel
theorem dX10_hand_43 : decode cX10_hand 43 = .ok (.iconst (-1), 1) := by decide +kernel
theorem dX10_hand_44 : decode cX10_hand 44 = .ok (.ireturn, 1) := by decide +kernel
theorem dX10_hand_45 : decode cX10_hand 45 = .ok (.lconst 0, 1) := by decide +kernel
theorem dX10_hand_46 : decode cX10_hand 46 = .ok (.lstore 5, 2) := by decide +kernel
theorem dX10_hand_48 : decode cX10_hand 48 = .ok (.lconst 0, 1) := by decide +kernel
theorem dX10_hand_49 : decode cX10_hand 49 = .ok (.lstore 7, 2) := by decide +kernel
theorem dX10_hand_51 : decode cX10_hand 51 = .ok (.aload_n 0, 1) := by decide +kernel
theorem dX10_hand_52 : decode cX10_hand 52 = .ok (.invokevirtual 201, 3) := by decide +kernel
theorem dX10_hand_55 : decode cX10_hand 55 = .ok (.iconst 0, 1) := by decide +kernel
theorem dX10_hand_56 : decode cX10_hand 56 = .ok (.istore 9, 2) := by decide +kernel
theorem dX10_hand_58 : decode cX10_hand 58 = .ok (.iload 9, 2) := by decide +kernel
theorem dX10_hand_60 : decode cX10_hand 60 = .ok (.iconst 1, 1) := by decide +kernel
theorem dX10_hand_61 : decode cX10_hand 61 = .ok (.iload_n 2, 1) := by decide +kernel
theorem dX10_hand_62 : decode cX10_hand 62 = .ok (.ishl, 1) := by decide +kernel
theorem dX10_hand_63 : decode cX10_hand 63 = .ok (.if_icmp .ge 111, 3) := by decide +kernel
theorem dX10_hand_66 : decode cX10_hand 66 = .ok (.lconst 1, 1) := by decide +kernel
theorem dX10_hand_67 : decode cX10_hand 67 = .ok (.lstore 10, 2) := by decide +kernel
theorem dX10_hand_69 : decode cX10_hand 69 = .ok (.iconst 0, 1) := by decide +kernel
theorem dX10_hand_70 : decode cX10_hand 70 = .ok (.istore 12, 2) := by decide +kernel
theorem dX10_hand_72 : decode cX10_hand 72 = .ok (.iload 12, 2) := by decide +kernel
theorem dX10_hand_74 : decode cX10_hand 74 = .ok (.iload_n 2, 1) := by decide +kernel
theorem dX10_hand_75 : decode cX10_hand 75 = .ok (.if_icmp .ge 61, 3) := by decide +kernel
theorem dX10_hand_78 : decode cX10_hand 78 = .ok (.iload 9, 2) := by decide +kernel
theorem dX10_hand_80 : decode cX10_hand 80 = .ok (.iload 12, 2) := by decide +kernel
theorem dX10_hand_82 : decode cX10_hand 82 = .ok (.ishr, 1) := by decide +kernel
theorem dX10_hand_83 : decode cX10_hand 83 = .ok (.iconst 1, 1) := by decide +kernel
theorem dX10_hand_84 : decode cX10_hand 84 = .ok (.iand, 1) := by decide +kernel
theorem dX10_hand_85 : decode cX10_hand 85 = .ok (.istore 13, 2) := by decide +kernel
theorem dX10_hand_87 : decode cX10_hand 87 = .ok (.lload 10, 2) := by decide +kernel
theorem dX10_hand_89 : decode cX10_hand 89 = .ok (.iload 13, 2) := by decide +kernel
theorem dX10_hand_91 : decode cX10_hand 91 = .ok (.ifCond .ne 8, 3) := by decide +kernel
theorem dX10_hand_94 : decode cX10_hand 94 = .ok (.iload_n 3, 1) := by decide +kernel
theorem dX10_hand_95 : decode cX10_hand 95 = .ok (.i2l, 1) := by decide +kernel
theorem dX10_hand_96 : decode cX10_hand 96 = .ok (.goto 8, 3) := by decide +kernel
theorem dX10_hand_99 : decode cX10_hand 99 = .ok (.bipush 10, 2) := by decide +kernel
theorem dX10_hand_101 : decode cX10_hand 101 = .ok (.iload_n 3, 1) := by decide +kernel
theorem dX10_hand_102 : decode cX10_hand 102 = .ok (.isub, 1) := by decide +kernel
theorem dX10_hand_103 : decode cX10_hand 103 = .ok (.i2l, 1) := by decide +kernel
theorem dX10_hand_104 : decode cX10_hand 104 = .ok (.lmul, 1) := by decide +kernel
theorem dX10_hand_105 : decode cX10_hand 105 = .ok (.lstore 10, 2) := by decide +kernel
theorem dX10_hand_107 : decode cX10_hand 107 = .ok (.aload_n 0, 1) := by decide +kernel
theorem dX10_hand_108 : decode cX10_hand 108 = .ok (.aload_n 0, 1) := by decide +kernel
theorem dX10_hand_109 : decode cX10_hand 109 = .ok (.aload_n 0, 1) := by decide +kernel
theorem dX10_hand_110 : decode cX10_hand 110 = .ok (.iload 13, 2) := by decide +kernel
theorem dX10_hand_112 : decode cX10_hand 112 = .ok (.invokevirtual 168, 3) := by decide +kernel
theorem dX10_hand_115 : decode cX10_hand 115 = .ok (.ifCond .eq 8, 3) := by decide +kernel
theorem dX10_hand_118 : decode cX10_hand 118 = .ok (.iload 13, 2) := by decide +kernel
theorem dX10_hand_120 : decode cX10_hand 120 = .ok (.goto 4, 3) := by decide +kernel
theorem dX10_hand_123 : decode cX10_hand 123 = .ok (.iconst 2, 1) := by decide +kernel
theorem dX10_hand_124 : decode cX10_hand 124 = .ok (.invokevirtual 174, 3) := by decide +kernel
theorem dX10_hand_127 : decode cX10_hand 127 = .ok (.invokevirtual 204, 3) := by decide +kernel
theorem dX10_hand_130 : decode cX10_hand 130 = .ok (.iinc 12 1, 3) := by decide +kernel
theorem dX10_hand_133 : decode cX10_hand 133 = .ok (.goto (-61), 3) := by decide +kernel
theorem dX10_hand_136 : decode cX10_hand 136 = .ok (.lload 7, 2) := by decide +kernel
theorem dX10_hand_138 : decode cX10_hand 138 = .ok (.lload 10, 2) := by decide +kernel
theorem dX10_hand_140 : decode cX10_hand 140 = .ok (.ladd, 1) := by decide +kernel
theorem dX10_hand_141 : decode cX10_hand 141 = .ok (.lstore 7, 2) := by decide +kernel
theorem dX10_hand_143 : decode cX10_hand 143 = .ok (.lload 5, 2) := by decide +kernel
theorem dX10_hand_145 : decode cX10_hand 145 = .ok (.aload_n 0, 1) := by decide +kernel
theorem dX10_hand_146 : decode cX10_hand 146 = .ok (.getfield 7, 3) := by decide +kernel
theorem dX10_hand_149 : decode cX10_hand 149 = .ok (.iconst 1, 1) := by decide +kernel
theorem dX10_hand_150 : decode cX10_hand 150 = .ok (.iaload, 1) := by decide +kernel
theorem dX10_hand_151 : decode cX10_hand 151 = .ok (.iload_n 1, 1) := by decide +kernel
theorem dX10_hand_152 : decode cX10_hand 152 = .ok (.if_icmp .ne 8, 3) := by decide +kernel
theorem dX10_hand_155 : decode cX10_hand 155 = .ok (.lload 10, 2) := by decide +kernel
theorem dX10_hand_157 : decode cX10_hand 157 = .ok (.goto 4, 3) := by decide +kernel
theorem dX10_hand_160 : decode cX10_hand 160 = .ok (.lconst 0, 1) := by decide +kernel
theorem dX10_hand_161 : decode cX10_hand 161 = .ok (.ladd, 1) := by decide +kernel
theorem dX10_hand_162 : decode cX10_hand 162 = .ok (.lstore 5, 2) := by decide +kernel
theorem dX10_hand_164 : decode cX10_hand 164 = .ok (.aload_n 0, 1) := by decide +kernel
theorem dX10_hand_165 : decode cX10_hand 165 = .ok (.invokevirtual 207, 3) := by decide +kernel
theorem dX10_hand_168 : decode cX10_hand 168 = .ok (.iinc 9 1, 3) := by decide +kernel
theorem dX10_hand_171 : decode cX10_hand 171 = .ok (.goto (-113), 3) := by decide +kernel
theorem dX10_hand_174 : decode cX10_hand 174 = .ok (.lload 5, 2) := by decide +kernel
theorem dX10_hand_176 : decode cX10_hand 176 = .ok (.lload 7, 2) := by decide +kernel
theorem dX10_hand_178 : decode cX10_hand 178 = .ok (.iload 4, 2) := by decide +kernel
theorem dX10_hand_180 : decode cX10_hand 180 = .ok (.invokestatic 210, 3) := by decide +kernel
theorem dX10_hand_183 : decode cX10_hand 183 = .ok (.ireturn, 1) := by decide +kernel
theorem dX10_noted_0 : decode cX10_noted 0 = .ok (.aload_n 0, 1) := by decide +kernel
theorem dX10_noted_1 : decode cX10_noted 1 = .ok (.iload_n 1, 1) := by decide +kernel
theorem dX10_noted_2 : decode cX10_noted 2 = .ok (.putfield 214, 3) := by decide +kernel
theorem dX10_noted_5 : decode cX10_noted 5 = .ok (.return_, 1) := by decide +kernel
theorem dX10_comesTo_0 : decode cX10_comesTo 0 = .ok (.iload_n 2, 1) := by decide +kernel
theorem dX10_comesTo_1 : decode cX10_comesTo 1 = .ok (.istore 4, 2) := by decide +kernel
theorem dX10_comesTo_3 : decode cX10_comesTo 3 = .ok (.iconst 0, 1) := by decide +kernel
theorem dX10_comesTo_4 : decode cX10_comesTo 4 = .ok (.istore 5, 2) := by decide +kernel
theorem dX10_comesTo_6 : decode cX10_comesTo 6 = .ok (.iconst 0, 1) := by decide +kernel
theorem dX10_comesTo_7 : decode cX10_comesTo 7 = .ok (.istore 6, 2) := by decide +kernel
theorem dX10_comesTo_9 : decode cX10_comesTo 9 = .ok (.iload 6, 2) := by decide +kernel
theorem dX10_comesTo_11 : decode cX10_comesTo 11 = .ok (.iload_n 3, 1) := by decide +kernel
theorem dX10_comesTo_12 : decode cX10_comesTo 12 = .ok (.if_icmp .ge 98, 3) := by decide +kernel
theorem dX10_comesTo_15 : decode cX10_comesTo 15 = .ok (.iload 4, 2) := by decide +kernel
theorem dX10_comesTo_17 : decode cX10_comesTo 17 = .ok (.iconst 3, 1) := by decide +kernel
theorem dX10_comesTo_18 : decode cX10_comesTo 18 = .ok (.idiv, 1) := by decide +kernel
theorem dX10_comesTo_19 : decode cX10_comesTo 19 = .ok (.istore 4, 2) := by decide +kernel
theorem dX10_comesTo_21 : decode cX10_comesTo 21 = .ok (.iload_n 1, 1) := by decide +kernel
theorem dX10_comesTo_22 : decode cX10_comesTo 22 = .ok (.iload 4, 2) := by decide +kernel
theorem dX10_comesTo_24 : decode cX10_comesTo 24 = .ok (.idiv, 1) := by decide +kernel
theorem dX10_comesTo_25 : decode cX10_comesTo 25 = .ok (.iconst 3, 1) := by decide +kernel
theorem dX10_comesTo_26 : decode cX10_comesTo 26 = .ok (.irem, 1) := by decide +kernel
theorem dX10_comesTo_27 : decode cX10_comesTo 27 = .ok (.istore 7, 2) := by decide +kernel
theorem dX10_comesTo_29 : decode cX10_comesTo 29 = .ok (.aload_n 0, 1) := by decide +kernel
theorem dX10_comesTo_30 : decode cX10_comesTo 30 = .ok (.iload 7, 2) := by decide +kernel
theorem dX10_comesTo_32 : decode cX10_comesTo 32 = .ok (.invokevirtual 168, 3) := by decide +kernel
theorem dX10_comesTo_35 : decode cX10_comesTo 35 = .ok (.ifCond .ne 18, 3) := by decide +kernel
theorem dX10_comesTo_38 : decode cX10_comesTo 38 = .ok (.iload 6, 2) := by decide +kernel
theorem dX10_comesTo_40 : decode cX10_comesTo 40 = .ok (.iconst 2, 1) := by decide +kernel
theorem dX10_comesTo_41 : decode cX10_comesTo 41 = .ok (.irem, 1) := by decide +kernel
theorem dX10_comesTo_42 : decode cX10_comesTo 42 = .ok (.ifCond .ne 8, 3) := by decide +kernel
theorem dX10_comesTo_45 : decode cX10_comesTo 45 = .ok (.ldc 217, 2) := by decide +kernel
theorem dX10_comesTo_47 : decode cX10_comesTo 47 = .ok (.goto 5, 3) := by decide +kernel
theorem dX10_comesTo_50 : decode cX10_comesTo 50 = .ok (.ldc 218, 2) := by decide +kernel
theorem dX10_comesTo_52 : decode cX10_comesTo 52 = .ok (.ireturn, 1) := by decide +kernel
theorem dX10_comesTo_53 : decode cX10_comesTo 53 = .ok (.aload_n 0, 1) := by decide +kernel
theorem dX10_comesTo_54 : decode cX10_comesTo 54 = .ok (.iload 7, 2) := by decide +kernel
theorem dX10_comesTo_56 : decode cX10_comesTo 56 = .ok (.invokevirtual 174, 3) := by decide +kernel
theorem dX10_comesTo_59 : decode cX10_comesTo 59 = .ok (.istore 8, 2) := by decide +kernel
theorem dX10_comesTo_61 : decode cX10_comesTo 61 = .ok (.iload 8, 2) := by decide +kernel
theorem dX10_comesTo_63 : decode cX10_comesTo 63 = .ok (.bipush (-4), 2) := by decide +kernel
theorem dX10_comesTo_65 : decode cX10_comesTo 65 = .ok (.if_icmp .ne 7, 3) := by decide +kernel
theorem dX10_comesTo_68 : decode cX10_comesTo 68 = .ok (.iconst 0, 1) := by decide +kernel
theorem dX10_comesTo_69 : decode cX10_comesTo 69 = .ok (.goto 13, 3) := by decide +kernel
theorem dX10_comesTo_72 : decode cX10_comesTo 72 = .ok (.aload_n 0, 1) := by decide +kernel
theorem dX10_comesTo_73 : decode cX10_comesTo 73 = .ok (.getfield 7, 3) := by decide +kernel
theorem dX10_comesTo_76 : decode cX10_comesTo 76 = .ok (.bipush 12, 2) := by decide +kernel
theorem dX10_comesTo_78 : decode cX10_comesTo 78 = .ok (.iload 8, 2) := by decide +kernel
theorem dX10_comesTo_80 : decode cX10_comesTo 80 = .ok (.iadd, 1) := by decide +kernel
theorem dX10_comesTo_81 : decode cX10_comesTo 81 = .ok (.iaload, 1) := by decide +kernel
theorem dX10_comesTo_82 : decode cX10_comesTo 82 = .ok (.istore 9, 2) := by decide +kernel
theorem dX10_comesTo_84 : decode cX10_comesTo 84 = .ok (.iload 5, 2) := by decide +kernel
theorem dX10_comesTo_86 : decode cX10_comesTo 86 = .ok (.iload 6, 2) := by decide +kernel
theorem dX10_comesTo_88 : decode cX10_comesTo 88 = .ok (.iconst 2, 1) := by decide +kernel
theorem dX10_comesTo_89 : decode cX10_comesTo 89 = .ok (.irem, 1) := by decide +kernel
theorem dX10_comesTo_90 : decode cX10_comesTo 90 = .ok (.ifCond .ne 8, 3) := by decide +kernel
theorem dX10_comesTo_93 : decode cX10_comesTo 93 = .ok (.iload 9, 2) := by decide +kernel
theorem dX10_comesTo_95 : decode cX10_comesTo 95 = .ok (.goto 6, 3) := by decide +kernel
theorem dX10_comesTo_98 : decode cX10_comesTo 98 = .ok (.iload 9, 2) := by decide +kernel
theorem dX10_comesTo_100 : decode cX10_comesTo 100 = .ok (.ineg, 1) := by decide +kernel
theorem dX10_comesTo_101 : decode cX10_comesTo 101 = .ok (.iadd, 1) := by decide +kernel
theorem dX10_comesTo_102 : decode cX10_comesTo 102 = .ok (.istore 5, 2) := by decide +kernel
theorem dX10_comesTo_104 : decode cX10_comesTo 104 = .ok (.iinc 6 1, 3) := by decide +kernel
theorem dX10_comesTo_107 : decode cX10_comesTo 107 = .ok (.goto (-98), 3) := by decide +kernel
theorem dX10_comesTo_110 : decode cX10_comesTo 110 = .ok (.iload 5, 2) := by decide +kernel
theorem dX10_comesTo_112 : decode cX10_comesTo 112 = .ok (.ireturn, 1) := by decide +kernel
theorem dX10_duel_0 : decode cX10_duel 0 = .ok (.iload_n 1, 1) := by decide +kernel
theorem dX10_duel_1 : decode cX10_duel 1 = .ok (.i2l, 1) := by decide +kernel
theorem dX10_duel_2 : decode cX10_duel 2 = .ok (.lconst 0, 1) := by decide +kernel
theorem dX10_duel_3 : decode cX10_duel 3 = .ok (.ldc2_w 197, 3) := by decide +kernel
theorem dX10_duel_6 : decode cX10_duel 6 = .ok (.invokestatic 77, 3) := by decide +kernel
theorem dX10_duel_9 : decode cX10_duel 9 = .ok (.ifCond .ne 5, 3) := by decide +kernel
theorem dX10_duel_12 : decode cX10_duel 12 = .ok (.iconst (-1), 1) := by decide +kernel
theorem dX10_duel_13 : decode cX10_duel 13 = .ok (.ireturn, 1) := by decide +kernel
theorem dX10_duel_14 : decode cX10_duel 14 = .ok (.aload_n 0, 1) := by decide +kernel
theorem dX10_duel_15 : decode cX10_duel 15 = .ok (.invokevirtual 159, 3) := by decide +kernel
theorem dX10_duel_18 : decode cX10_duel 18 = .ok (.ifCond .ne 6, 3) := by decide +kernel
theorem dX10_duel_21 : decode cX10_duel 21 = .ok (.bipush (-2), 2) := by decide +kernel
theorem dX10_duel_23 : decode cX10_duel 23 = .ok (.ireturn, 1) := by decide +kernel
theorem dX10_duel_24 : decode cX10_duel 24 = .ok (.iconst 1, 1) := by decide +kernel
theorem dX10_duel_25 : decode cX10_duel 25 = .ok (.istore_n 2, 1) := by decide +kernel
theorem dX10_duel_26 : decode cX10_duel 26 = .ok (.iconst 0, 1) := by decide +kernel
theorem dX10_duel_27 : decode cX10_duel 27 = .ok (.istore_n 3, 1) := by decide +kernel
theorem dX10_duel_28 : decode cX10_duel 28 = .ok (.iload_n 3, 1) := by decide +kernel
theorem dX10_duel_29 : decode cX10_duel 29 = .ok (.iload_n 1, 1) := by decide +kernel
theorem dX10_duel_30 : decode cX10_duel 30 = .ok (.if_icmp .ge 13, 3) := by decide +kernel
theorem dX10_duel_33 : decode cX10_duel 33 = .ok (.iload_n 2, 1) := by decide +kernel
theorem dX10_duel_34 : decode cX10_duel 34 = .ok (.iconst 3, 1) := by decide +kernel
theorem dX10_duel_35 : decode cX10_duel 35 = .ok (.imul, 1) := by decide +kernel
theorem dX10_duel_36 : decode cX10_duel 36 = .ok (.istore_n 2, 1) := by decide +kernel
theorem dX10_duel_37 : decode cX10_duel 37 = .ok (.iinc 3 1, 3) := by decide +kernel
theorem dX10_duel_40 : decode cX10_duel 40 = .ok (.goto (-12), 3) := by decide +kernel
theorem dX10_duel_43 : decode cX10_duel 43 = .ok (.aload_n 0, 1) := by decide +kernel
theorem dX10_duel_44 : decode cX10_duel 44 = .ok (.invokevirtual 201, 3) := by decide +kernel
theorem dX10_duel_47 : decode cX10_duel 47 = .ok (.iconst 0, 1) := by decide +kernel
theorem dX10_duel_48 : decode cX10_duel 48 = .ok (.istore_n 3, 1) := by decide +kernel
theorem dX10_duel_49 : decode cX10_duel 49 = .ok (.iload_n 3, 1) := by decide +kernel
theorem dX10_duel_50 : decode cX10_duel 50 = .ok (.iload_n 2, 1) := by decide +kernel
theorem dX10_duel_51 : decode cX10_duel 51 = .ok (.if_icmp .ge 26, 3) := by decide +kernel
theorem dX10_duel_54 : decode cX10_duel 54 = .ok (.aload_n 0, 1) := by decide +kernel
theorem dX10_duel_55 : decode cX10_duel 55 = .ok (.getfield 41, 3) := by decide +kernel
theorem dX10_duel_58 : decode cX10_duel 58 = .ok (.iload_n 3, 1) := by decide +kernel
theorem dX10_duel_59 : decode cX10_duel 59 = .ok (.aload_n 0, 1) := by decide +kernel
theorem dX10_duel_60 : decode cX10_duel 60 = .ok (.iload_n 3, 1) := by decide +kernel
theorem dX10_duel_61 : decode cX10_duel 61 = .ok (.iload_n 2, 1) := by decide +kernel
theorem dX10_duel_62 : decode cX10_duel 62 = .ok (.iload_n 1, 1) := by decide +kernel
theorem dX10_duel_63 : decode cX10_duel 63 = .ok (.invokevirtual 219, 3) := by decide +kernel
theorem dX10_duel_66 : decode cX10_duel 66 = .ok (.iastore, 1) := by decide +kernel
theorem dX10_duel_67 : decode cX10_duel 67 = .ok (.aload_n 0, 1) := by decide +kernel
theorem dX10_duel_68 : decode cX10_duel 68 = .ok (.invokevirtual 207, 3) := by decide +kernel
theorem dX10_duel_71 : decode cX10_duel 71 = .ok (.iinc 3 1, 3) := by decide +kernel
theorem dX10_duel_74 : decode cX10_duel 74 = .ok (.goto (-25), 3) := by decide +kernel
theorem dX10_duel_77 : decode cX10_duel 77 = .ok (.iload_n 2, 1) := by decide +kernel
theorem dX10_duel_78 : decode cX10_duel 78 = .ok (.istore_n 3, 1) := by decide +kernel
theorem dX10_duel_79 : decode cX10_duel 79 = .ok (.iload_n 1, 1) := by decide +kernel
theorem dX10_duel_80 : decode cX10_duel 80 = .ok (.iconst 1, 1) := by decide +kernel
theorem dX10_duel_81 : decode cX10_duel 81 = .ok (.isub, 1) := by decide +kernel
theorem dX10_duel_82 : decode cX10_duel 82 = .ok (.istore 4, 2) := by decide +kernel
theorem dX10_duel_84 : decode cX10_duel 84 = .ok (.iload 4, 2) := by decide +kernel
theorem dX10_duel_86 : decode cX10_duel 86 = .ok (.ifCond .lt 117, 3) := by decide +kernel
theorem dX10_duel_89 : decode cX10_duel 89 = .ok (.iload_n 3, 1) := by decide +kernel
theorem dX10_duel_90 : decode cX10_duel 90 = .ok (.iconst 3, 1) := by decide +kernel
theorem dX10_duel_91 : decode cX10_duel 91 = .ok (.idiv, 1) := by decide +kernel
theorem dX10_duel_92 : decode cX10_duel 92 = .ok (.istore_n 3, 1) := by decide +kernel
theorem dX10_duel_93 : decode cX10_duel 93 = .ok (.iconst 0, 1) := by decide +kernel
theorem dX10_duel_94 : decode cX10_duel 94 = .ok (.istore 5, 2) := by decide +kernel
theorem dX10_duel_96 : decode cX10_duel 96 = .ok (.iload 5, 2) := by decide +kernel
theorem dX10_duel_98 : decode cX10_duel 98 = .ok (.iload_n 3, 1) := by decide +kernel
theorem dX10_duel_99 : decode cX10_duel 99 = .ok (.if_icmp .ge 98, 3) := by decide +kernel
theorem dX10_duel_102 : decode cX10_duel 102 = .ok (.aload_n 0, 1) := by decide +kernel
theorem dX10_duel_103 : decode cX10_duel 103 = .ok (.getfield 41, 3) := by decide +kernel
theorem dX10_duel_106 : decode cX10_duel 106 = .ok (.iconst 3, 1) := by decide +kernel
theorem dX10_duel_107 : decode cX10_duel 107 = .ok (.iload 5, 2) := by decide +kernel
theorem dX10_duel_109 : decode cX10_duel 109 = .ok (.imul, 1) := by decide +kernel
theorem dX10_duel_110 : decode cX10_duel 110 = .ok (.iaload, 1) := by decide +kernel
theorem dX10_duel_111 : decode cX10_duel 111 = .ok (.istore 6, 2) := by decide +kernel
theorem dX10_duel_113 : decode cX10_duel 113 = .ok (.iconst 1, 1) := by decide +kernel
theorem dX10_duel_114 : decode cX10_duel 114 = .ok (.istore 7, 2) := by decide +kernel
theorem dX10_duel_116 : decode cX10_duel 116 = .ok (.iload 7, 2) := by decide +kernel
theorem dX10_duel_118 : decode cX10_duel 118 = .ok (.iconst 3, 1) := by decide +kernel
theorem dX10_duel_119 : decode cX10_duel 119 = .ok (.if_icmp .ge 63, 3) := by decide +kernel
theorem dX10_duel_122 : decode cX10_duel 122 = .ok (.aload_n 0, 1) := by decide +kernel
theorem dX10_duel_123 : decode cX10_duel 123 = .ok (.getfield 41, 3) := by decide +kernel
theorem dX10_duel_126 : decode cX10_duel 126 = .ok (.iconst 3, 1) := by decide +kernel
theorem dX10_duel_127 : decode cX10_duel 127 = .ok (.iload 5, 2) := by decide +kernel
theorem dX10_duel_129 : decode cX10_duel 129 = .ok (.imul, 1) := by decide +kernel
theorem dX10_duel_130 : decode cX10_duel 130 = .ok (.iload 7, 2) := by decide +kernel
theorem dX10_duel_132 : decode cX10_duel 132 = .ok (.iadd, 1) := by decide +kernel
theorem dX10_duel_133 : decode cX10_duel 133 = .ok (.iaload, 1) := by decide +kernel
theorem dX10_duel_134 : decode cX10_duel 134 = .ok (.istore 8, 2) := by decide +kernel
theorem dX10_duel_136 : decode cX10_duel 136 = .ok (.iload 4, 2) := by decide +kernel
theorem dX10_duel_138 : decode cX10_duel 138 = .ok (.iconst 2, 1) := by decide +kernel
theorem dX10_duel_139 : decode cX10_duel 139 = .ok (.irem, 1) := by decide +kernel
theorem dX10_duel_140 : decode cX10_duel 140 = .ok (.ifCond .ne 20, 3) := by decide +kernel
theorem dX10_duel_143 : decode cX10_duel 143 = .ok (.iload 8, 2) := by decide +kernel
theorem dX10_duel_145 : decode cX10_duel 145 = .ok (.iload 6, 2) := by decide +kernel
theorem dX10_duel_147 : decode cX10_duel 147 = .ok (.if_icmp .le 8, 3) := by decide +kernel
theorem dX10_duel_150 : decode cX10_duel 150 = .ok (.iload 8, 2) := by decide +kernel
theorem dX10_duel_152 : decode cX10_duel 152 = .ok (.goto 22, 3) := by decide +kernel
theorem dX10_duel_155 : decode cX10_duel 155 = .ok (.iload 6, 2) := by decide +kernel
theorem dX10_duel_157 : decode cX10_duel 157 = .ok (.goto 17, 3) := by decide +kernel
theorem dX10_duel_160 : decode cX10_duel 160 = .ok (.iload 8, 2) := by decide +kernel
theorem dX10_duel_162 : decode cX10_duel 162 = .ok (.iload 6, 2) := by decide +kernel
theorem dX10_duel_164 : decode cX10_duel 164 = .ok (.if_icmp .ge 8, 3) := by decide +kernel
theorem dX10_duel_167 : decode cX10_duel 167 = .ok (.iload 8, 2) := by decide +kernel
theorem dX10_duel_169 : decode cX10_duel 169 = .ok (.goto 5, 3) := by decide +kernel
theorem dX10_duel_172 : decode cX10_duel 172 = .ok (.iload 6, 2) := by decide +kernel
theorem dX10_duel_174 : decode cX10_duel 174 = .ok (.istore 6, 2) := by decide +kernel
theorem dX10_duel_176 : decode cX10_duel 176 = .ok (.iinc 7 1, 3) := by decide +kernel
theorem dX10_duel_179 : decode cX10_duel 179 = .ok (.goto (-63), 3) := by decide +kernel
theorem dX10_duel_182 : decode cX10_duel 182 = .ok (.aload_n 0, 1) := by decide +kernel
theorem dX10_duel_183 : decode cX10_duel 183 = .ok (.getfield 41, 3) := by decide +kernel
theorem dX10_duel_186 : decode cX10_duel 186 = .ok (.iload 5, 2) := by decide +kernel
theorem dX10_duel_188 : decode cX10_duel 188 = .ok (.iload 6, 2) := by decide +kernel
theorem dX10_duel_190 : decode cX10_duel 190 = .ok (.iastore, 1) := by decide +kernel
theorem dX10_duel_191 : decode cX10_duel 191 = .ok (.iinc 5 1, 3) := by decide +kernel
theorem dX10_duel_194 : decode cX10_duel 194 = .ok (.goto (-98), 3) := by decide +kernel
theorem dX10_duel_197 : decode cX10_duel 197 = .ok (.iinc 4 (-1), 3) := by decide +kernel
theorem dX10_duel_200 : decode cX10_duel 200 = .ok (.goto (-116), 3) := by decide +kernel
theorem dX10_duel_203 : decode cX10_duel 203 = .ok (.bipush 100, 2) := by decide +kernel
theorem dX10_duel_205 : decode cX10_duel 205 = .ok (.aload_n 0, 1) := by decide +kernel
theorem dX10_duel_206 : decode cX10_duel 206 = .ok (.getfield 41, 3) := by decide +kernel
theorem dX10_duel_209 : decode cX10_duel 209 = .ok (.iconst 0, 1) := by decide +kernel
theorem dX10_duel_210 : decode cX10_duel 210 = .ok (.iaload, 1) := by decide +kernel
theorem dX10_duel_211 : decode cX10_duel 211 = .ok (.iadd, 1) := by decide +kernel
theorem dX10_duel_212 : decode cX10_duel 212 = .ok (.ireturn, 1) := by decide +kernel
theorem dX10_decades_0 : decode cX10_decades 0 = .ok (.iload_n 1, 1) := by decide +kernel
theorem dX10_decades_1 : decode cX10_decades 1 = .ok (.i2l, 1) := by decide +kernel
theorem dX10_decades_2 : decode cX10_decades 2 = .ok (.lconst 0, 1) := by decide +kernel
theorem dX10_decades_3 : decode cX10_decades 3 = .ok (.ldc2_w 223, 3) := by decide +kernel
theorem dX10_decades_6 : decode cX10_decades 6 = .ok (.invokestatic 77, 3) := by decide +kernel
theorem dX10_decades_9 : decode cX10_decades 9 = .ok (.ifCond .eq 25, 3) := by decide +kernel
theorem dX10_decades_12 : decode cX10_decades 12 = .ok (.iload_n 2, 1) := by decide +kernel
theorem dX10_decades_13 : decode cX10_decades 13 = .ok (.i2l, 1) := by decide +kernel
theorem dX10_decades_14 : decode cX10_decades 14 = .ok (.lconst 1, 1) := by decide +kernel
theorem dX10_decades_15 : decode cX10_decades 15 = .ok (.ldc2_w 225, 3) := by decide +kernel
theorem dX10_decades_18 : decode cX10_decades 18 = .ok (.invokestatic 77, 3) := by decide +kernel
theorem dX10_decades_21 : decode cX10_decades 21 = .ok (.ifCond .eq 13, 3) := by decide +kernel
theorem dX10_decades_24 : decode cX10_decades 24 = .ok (.iload_n 3, 1) := by decide +kernel
theorem dX10_decades_25 : decode cX10_decades 25 = .ok (.i2l, 1) := by decide +kernel
theorem dX10_decades_26 : decode cX10_decades 26 = .ok (.lconst 0, 1) := by decide +kernel
theorem dX10_decades_27 : decode cX10_decades 27 = .ok (.lconst 1, 1) := by decide +kernel
theorem dX10_decades_28 : decode cX10_decades 28 = .ok (.invokestatic 77, 3) := by decide +kernel
theorem dX10_decades_31 : decode cX10_decades 31 = .ok (.ifCond .ne 5, 3) := by decide +kernel
theorem dX10_decades_34 : decode cX10_decades 34 = .ok (.iconst (-1), 1) := by decide +kernel
theorem dX10_decades_35 : decode cX10_decades 35 = .ok (.ireturn, 1) := by decide +kernel
theorem dX10_decades_36 : decode cX10_decades 36 = .ok (.aload_n 0, 1) := by decide +kernel
theorem dX10_decades_37 : decode cX10_decades 37 = .ok (.invokevirtual 159, 3) := by decide +kernel
theorem dX10_decades_40 : decode cX10_decades 40 = .ok (.ifCond .ne 6, 3) := by decide +kernel
theorem dX10_decades_43 : decode cX10_decades 43 = .ok (.bipush (-2), 2) := by decide +kernel
theorem dX10_decades_45 : decode cX10_decades 45 = .ok (.ireturn, 1) := by decide +kernel
theorem dX10_decades_46 : decode cX10_decades 46 = .ok (.aload_n 0, 1) := by decide +kernel
theorem dX10_decades_47 : decode cX10_decades 47 = .ok (.invokevirtual 201, 3) := by decide +kernel
theorem dX10_decades_50 : decode cX10_decades 50 = .ok (.iload_n 2, 1) := by decide +kernel
theorem dX10_decades_51 : decode cX10_decades 51 = .ok (.i2l, 1) := by decide +kernel
theorem dX10_decades_52 : decode cX10_decades 52 = .ok (.lstore 4, 2) := by decide +kernel
theorem dX10_decades_54 : decode cX10_decades 54 = .ok (.iconst 0, 1) := by decide +kernel
theorem dX10_decades_55 : decode cX10_decades 55 = .ok (.istore 6, 2) := by decide +kernel
theorem dX10_decades_57 : decode cX10_decades 57 = .ok (.iload 6, 2) := by decide +kernel
theorem dX10_decades_59 : decode cX10_decades 59 = .ok (.iload_n 1, 1) := by decide +kernel
theorem dX10_decades_60 : decode cX10_decades 60 = .ok (.if_icmp .ge 57, 3) := by decide +kernel
theorem dX10_decades_63 : decode cX10_decades 63 = .ok (.lload 4, 2) := by decide +kernel
theorem dX10_decades_65 : decode cX10_decades 65 = .ok (.ldc2_w 227, 3) := by decide +kernel
theorem dX10_decades_68 : decode cX10_decades 68 = .ok (.lmul, 1) := by decide +kernel
theorem dX10_decades_69 : decode cX10_decades 69 = .ok (.ldc2_w 229, 3) := by decide +kernel
theorem dX10_decades_72 : decode cX10_decades 72 = .ok (.lrem, 1) := by decide +kernel
theorem dX10_decades_73 : decode cX10_decades 73 = .ok (.lstore 4, 2) := by decide +kernel
theorem dX10_decades_75 : decode cX10_decades 75 = .ok (.lload 4, 2) := by decide +kernel
theorem dX10_decades_77 : decode cX10_decades 77 = .ok (.ldc2_w 231, 3) := by decide +kernel
theorem dX10_decades_80 : decode cX10_decades 80 = .ok (.ldiv, 1) := by decide +kernel
theorem dX10_decades_81 : decode cX10_decades 81 = .ok (.ldc2_w 233, 3) := by decide +kernel
theorem dX10_decades_84 : decode cX10_decades 84 = .ok (.lrem, 1) := by decide +kernel
theorem dX10_decades_85 : decode cX10_decades 85 = .ok (.l2i, 1) := by decide +kernel
theorem dX10_decades_86 : decode cX10_decades 86 = .ok (.istore 7, 2) := by decide +kernel
theorem dX10_decades_88 : decode cX10_decades 88 = .ok (.aload_n 0, 1) := by decide +kernel
theorem dX10_decades_89 : decode cX10_decades 89 = .ok (.aload_n 0, 1) := by decide +kernel
theorem dX10_decades_90 : decode cX10_decades 90 = .ok (.aload_n 0, 1) := by decide +kernel
theorem dX10_decades_91 : decode cX10_decades 91 = .ok (.iload 7, 2) := by decide +kernel
theorem dX10_decades_93 : decode cX10_decades 93 = .ok (.invokevirtual 168, 3) := by decide +kernel
theorem dX10_decades_96 : decode cX10_decades 96 = .ok (.ifCond .eq 8, 3) := by decide +kernel
theorem dX10_decades_99 : decode cX10_decades 99 = .ok (.iload 7, 2) := by decide +kernel
theorem dX10_decades_101 : decode cX10_decades 101 = .ok (.goto 4, 3) := by decide +kernel
theorem dX10_decades_104 : decode cX10_decades 104 = .ok (.iconst 2, 1) := by decide +kernel
theorem dX10_decades_105 : decode cX10_decades 105 = .ok (.invokevirtual 174, 3) := by decide +kernel
theorem dX10_decades_108 : decode cX10_decades 108 = .ok (.invokevirtual 204, 3) := by decide +kernel
theorem dX10_decades_111 : decode cX10_decades 111 = .ok (.iinc 6 1, 3) := by decide +kernel
theorem dX10_decades_114 : decode cX10_decades 114 = .ok (.goto (-57), 3) := by decide +kernel
theorem dX10_decades_117 : decode cX10_decades 117 = .ok (.iload_n 3, 1) := by decide +kernel
theorem dX10_decades_118 : decode cX10_decades 118 = .ok (.ifCond .ne 12, 3) := by decide +kernel
theorem dX10_decades_121 : decode cX10_decades 121 = .ok (.aload_n 0, 1) := by decide +kernel
theorem dX10_decades_122 : decode cX10_decades 122 = .ok (.getfield 7, 3) := by decide +kernel
theorem dX10_decades_125 : decode cX10_decades 125 = .ok (.iconst 3, 1) := by decide +kernel
theorem dX10_decades_126 : decode cX10_decades 126 = .ok (.iaload, 1) := by decide +kernel
theorem dX10_decades_127 : decode cX10_decades 127 = .ok (.goto 9, 3) := by decide +kernel
theorem dX10_decades_130 : decode cX10_decades 130 = .ok (.aload_n 0, 1) := by decide +kernel
theorem dX10_decades_131 : decode cX10_decades 131 = .ok (.getfield 7, 3) := by decide +kernel
theorem dX10_decades_134 : decode cX10_decades 134 = .ok (.iconst 1, 1) := by decide +kernel
theorem dX10_decades_135 : decode cX10_decades 135 = .ok (.iaload, 1) := by decide +kernel
theorem dX10_decades_136 : decode cX10_decades 136 = .ok (.istore 6, 2) := by decide +kernel
theorem dX10_decades_138 : decode cX10_decades 138 = .ok (.aload_n 0, 1) := by decide +kernel
theorem dX10_decades_139 : decode cX10_decades 139 = .ok (.invokevirtual 207, 3) := by decide +kernel
theorem dX10_decades_142 : decode cX10_decades 142 = .ok (.iload 6, 2) := by decide +kernel
theorem dX10_decades_144 : decode cX10_decades 144 = .ok (.ireturn, 1) := by decide +kernel
theorem dX10_isSheet_0 : decode cX10_isSheet 0 = .ok (.iload_n 0, 1) := by decide +kernel
theorem dX10_isSheet_1 : decode cX10_isSheet 1 = .ok (.i2l, 1) := by decide +kernel
theorem dX10_isSheet_2 : decode cX10_isSheet 2 = .ok (.lconst 0, 1) := by decide +kernel
theorem dX10_isSheet_3 : decode cX10_isSheet 3 = .ok (.ldc2_w 233, 3) := by decide +kernel
theorem dX10_isSheet_6 : decode cX10_isSheet 6 = .ok (.invokestatic 77, 3) := by decide +kernel
theorem dX10_isSheet_9 : decode cX10_isSheet 9 = .ok (.ireturn, 1) := by decide +kernel
theorem dX10_cut_0 : decode cX10_cut 0 = .ok (.iload_n 2, 1) := by decide +kernel
theorem dX10_cut_1 : decode cX10_cut 1 = .ok (.ifCond .ne 10, 3) := by decide +kernel
theorem dX10_cut_4 : decode cX10_cut 4 = .ok (.lload_n 0, 1) := by decide +kernel
theorem dX10_cut_5 : decode cX10_cut 5 = .ok (.l2i, 1) := by decide +kernel
theorem dX10_cut_6 : decode cX10_cut 6 = .ok (.i2b, 1) := by decide +kernel
theorem dX10_cut_7 : decode cX10_cut 7 = .ok (.i2l, 1) := by decide +kernel
theorem dX10_cut_8 : decode cX10_cut 8 = .ok (.goto 27, 3) := by decide +kernel
theorem dX10_cut_11 : decode cX10_cut 11 = .ok (.iload_n 2, 1) := by decide +kernel
theorem dX10_cut_12 : decode cX10_cut 12 = .ok (.iconst 1, 1) := by decide +kernel
theorem dX10_cut_13 : decode cX10_cut 13 = .ok (.if_icmp .ne 10, 3) := by decide +kernel
theorem dX10_cut_16 : decode cX10_cut 16 = .ok (.lload_n 0, 1) := by decide +kernel
theorem dX10_cut_17 : decode cX10_cut 17 = .ok (.l2i, 1) := by decide +kernel
theorem dX10_cut_18 : decode cX10_cut 18 = .ok (.i2s, 1) := by decide +kernel
theorem dX10_cut_19 : decode cX10_cut 19 = .ok (.i2l, 1) := by decide +kernel
theorem dX10_cut_20 : decode cX10_cut 20 = .ok (.goto 15, 3) := by decide +kernel
theorem dX10_cut_23 : decode cX10_cut 23 = .ok (.iload_n 2, 1) := by decide +kernel
theorem dX10_cut_24 : decode cX10_cut 24 = .ok (.iconst 2, 1) := by decide +kernel
theorem dX10_cut_25 : decode cX10_cut 25 = .ok (.if_icmp .ne 9, 3) := by decide +kernel
theorem dX10_cut_28 : decode cX10_cut 28 = .ok (.lload_n 0, 1) := by decide +kernel
theorem dX10_cut_29 : decode cX10_cut 29 = .ok (.l2i, 1) := by decide +kernel
theorem dX10_cut_30 : decode cX10_cut 30 = .ok (.i2l, 1) := by decide +kernel
theorem dX10_cut_31 : decode cX10_cut 31 = .ok (.goto 4, 3) := by decide +kernel
theorem dX10_cut_34 : decode cX10_cut 34 = .ok (.lload_n 0, 1) := by decide +kernel
theorem dX10_cut_35 : decode cX10_cut 35 = .ok (.lreturn, 1) := by decide +kernel
theorem dX10_sheet_0 : decode cX10_sheet 0 = .ok (.iload_n 1, 1) := by decide +kernel
theorem dX10_sheet_1 : decode cX10_sheet 1 = .ok (.invokestatic 235, 3) := by decide +kernel
theorem dX10_sheet_4 : decode cX10_sheet 4 = .ok (.ifCond .eq 21, 3) := by decide +kernel
theorem dX10_sheet_7 : decode cX10_sheet 7 = .ok (.iload_n 2, 1) := by decide +kernel
theorem dX10_sheet_8 : decode cX10_sheet 8 = .ok (.i2l, 1) := by decide +kernel
theorem dX10_sheet_9 : decode cX10_sheet 9 = .ok (.lconst 0, 1) := by decide +kernel
theorem dX10_sheet_10 : decode cX10_sheet 10 = .ok (.ldc2_w 233, 3) := by decide +kernel
theorem dX10_sheet_13 : decode cX10_sheet 13 = .ok (.invokestatic 77, 3) := by decide +kernel
theorem dX10_sheet_16 : decode cX10_sheet 16 = .ok (.ifCond .eq 9, 3) := by decide +kernel
theorem dX10_sheet_19 : decode cX10_sheet 19 = .ok (.iload_n 3, 1) := by decide +kernel
theorem dX10_sheet_20 : decode cX10_sheet 20 = .ok (.bipush 24, 2) := by decide +kernel
theorem dX10_sheet_22 : decode cX10_sheet 22 = .ok (.if_icmp .le 5, 3) := by decide +kernel
theorem dX10_sheet_25 : decode cX10_sheet 25 = .ok (.iconst (-1), 1) := by decide +kernel
theorem dX10_sheet_26 : decode cX10_sheet 26 = .ok (.ireturn, 1) := by decide +kernel
theorem dX10_sheet_27 : decode cX10_sheet 27 = .ok (.iload_n 3, 1) := by decide +kernel
theorem dX10_sheet_28 : decode cX10_sheet 28 = .ok (.ifCond .ge 6, 3) := by decide +kernel
theorem dX10_sheet_31 : decode cX10_sheet 31 = .ok (.bipush (-14), 2) := by decide +kernel
theorem dX10_sheet_33 : decode cX10_sheet 33 = .ok (.ireturn, 1) := by decide +kernel
theorem dX10_sheet_34 : decode cX10_sheet 34 = .ok (.aload_n 0, 1) := by decide +kernel
theorem dX10_sheet_35 : decode cX10_sheet 35 = .ok (.getfield 44, 3) := by decide +kernel
theorem dX10_sheet_38 : decode cX10_sheet 38 = .ok (.iload_n 1, 1) := by decide +kernel
theorem dX10_sheet_39 : decode cX10_sheet 39 = .ok (.iload_n 2, 1) := by decide +kernel
theorem dX10_sheet_40 : decode cX10_sheet 40 = .ok (.iastore, 1) := by decide +kernel
theorem dX10_sheet_41 : decode cX10_sheet 41 = .ok (.aload_n 0, 1) := by decide +kernel
theorem dX10_sheet_42 : decode cX10_sheet 42 = .ok (.getfield 47, 3) := by decide +kernel
theorem dX10_sheet_45 : decode cX10_sheet 45 = .ok (.iload_n 1, 1) := by decide +kernel
theorem dX10_sheet_46 : decode cX10_sheet 46 = .ok (.iload_n 3, 1) := by decide +kernel
theorem dX10_sheet_47 : decode cX10_sheet 47 = .ok (.iastore, 1) := by decide +kernel
theorem dX10_sheet_48 : decode cX10_sheet 48 = .ok (.iconst 0, 1) := by decide +kernel
theorem dX10_sheet_49 : decode cX10_sheet 49 = .ok (.istore 4, 2) := by decide +kernel
theorem dX10_sheet_51 : decode cX10_sheet 51 = .ok (.iload 4, 2) := by decide +kernel
theorem dX10_sheet_53 : decode cX10_sheet 53 = .ok (.bipush 24, 2) := by decide +kernel
theorem dX10_sheet_55 : decode cX10_sheet 55 = .ok (.if_icmp .ge 22, 3) := by decide +kernel
theorem dX10_sheet_58 : decode cX10_sheet 58 = .ok (.aload_n 0, 1) := by decide +kernel
theorem dX10_sheet_59 : decode cX10_sheet 59 = .ok (.getfield 50, 3) := by decide +kernel
theorem dX10_sheet_62 : decode cX10_sheet 62 = .ok (.bipush 24, 2) := by decide +kernel
theorem dX10_sheet_64 : decode cX10_sheet 64 = .ok (.iload_n 1, 1) := by decide +kernel
theorem dX10_sheet_65 : decode cX10_sheet 65 = .ok (.imul, 1) := by decide +kernel
theorem dX10_sheet_66 : decode cX10_sheet 66 = .ok (.iload 4, 2) := by decide +kernel
theorem dX10_sheet_68 : decode cX10_sheet 68 = .ok (.iadd, 1) := by decide +kernel
theorem dX10_sheet_69 : decode cX10_sheet 69 = .ok (.lconst 0, 1) := by decide +kernel
theorem dX10_sheet_70 : decode cX10_sheet 70 = .ok (.lastore, 1) := by decide +kernel
theorem dX10_sheet_71 : decode cX10_sheet 71 = .ok (.iinc 4 1, 3) := by decide +kernel
theorem dX10_sheet_74 : decode cX10_sheet 74 = .ok (.goto (-23), 3) := by decide +kernel
theorem dX10_sheet_77 : decode cX10_sheet 77 = .ok (.iload_n 3, 1) := by decide +kernel
theorem dX10_sheet_78 : decode cX10_sheet 78 = .ok (.ireturn, 1) := by decide +kernel
theorem dX10_drop_0 : decode cX10_drop 0 = .ok (.iload_n 1, 1) := by decide +kernel
theorem dX10_drop_1 : decode cX10_drop 1 = .ok (.invokestatic 235, 3) := by decide +kernel
theorem dX10_drop_4 : decode cX10_drop 4 = .ok (.ifCond .ne 5, 3) := by decide +kernel
theorem dX10_drop_7 : decode cX10_drop 7 = .ok (.iconst (-1), 1) := by decide +kernel
theorem dX10_drop_8 : decode cX10_drop 8 = .ok (.ireturn, 1) := by decide +kernel
theorem dX10_drop_9 : decode cX10_drop 9 = .ok (.aload_n 0, 1) := by decide +kernel
theorem dX10_drop_10 : decode cX10_drop 10 = .ok (.getfield 44, 3) := by decide +kernel
theorem dX10_drop_13 : decode cX10_drop 13 = .ok (.iload_n 1, 1) := by decide +kernel
theorem dX10_drop_14 : decode cX10_drop 14 = .ok (.iaload, 1) := by decide +kernel
theorem dX10_drop_15 : decode cX10_drop 15 = .ok (.ifCond .ge 6, 3) := by decide +kernel
theorem dX10_drop_18 : decode cX10_drop 18 = .ok (.bipush (-11), 2) := by decide +kernel
theorem dX10_drop_20 : decode cX10_drop 20 = .ok (.ireturn, 1) := by decide +kernel
theorem dX10_drop_21 : decode cX10_drop 21 = .ok (.aload_n 0, 1) := by decide +kernel
theorem dX10_drop_22 : decode cX10_drop 22 = .ok (.getfield 44, 3) := by decide +kernel
theorem dX10_drop_25 : decode cX10_drop 25 = .ok (.iload_n 1, 1) := by decide +kernel
theorem dX10_drop_26 : decode cX10_drop 26 = .ok (.iconst (-1), 1) := by decide +kernel
theorem dX10_drop_27 : decode cX10_drop 27 = .ok (.iastore, 1) := by decide +kernel
theorem dX10_drop_28 : decode cX10_drop 28 = .ok (.aload_n 0, 1) := by decide +kernel
theorem dX10_drop_29 : decode cX10_drop 29 = .ok (.getfield 47, 3) := by decide +kernel
theorem dX10_drop_32 : decode cX10_drop 32 = .ok (.iload_n 1, 1) := by decide +kernel
theorem dX10_drop_33 : decode cX10_drop 33 = .ok (.iaload, 1) := by decide +kernel
theorem dX10_drop_34 : decode cX10_drop 34 = .ok (.ireturn, 1) := by decide +kernel
theorem dX10_why_0 : decode cX10_why 0 = .ok (.aload_n 0, 1) := by decide +kernel
theorem dX10_why_1 : decode cX10_why 1 = .ok (.getfield 44, 3) := by decide +kernel
theorem dX10_why_4 : decode cX10_why 4 = .ok (.iload_n 1, 1) := by decide +kernel
theorem dX10_why_5 : decode cX10_why 5 = .ok (.iaload, 1) := by decide +kernel
theorem dX10_why_6 : decode cX10_why 6 = .ok (.ifCond .ge 6, 3) := by decide +kernel
theorem dX10_why_9 : decode cX10_why 9 = .ok (.bipush (-11), 2) := by decide +kernel
theorem dX10_why_11 : decode cX10_why 11 = .ok (.ireturn, 1) := by decide +kernel
theorem dX10_why_12 : decode cX10_why 12 = .ok (.aload_n 0, 1) := by decide +kernel
theorem dX10_why_13 : decode cX10_why 13 = .ok (.getfield 44, 3) := by decide +kernel
theorem dX10_why_16 : decode cX10_why 16 = .ok (.iload_n 1, 1) := by decide +kernel
theorem dX10_why_17 : decode cX10_why 17 = .ok (.iaload, 1) := by decide +kernel
theorem dX10_why_18 : decode cX10_why 18 = .ok (.iload_n 2, 1) := by decide +kernel
theorem dX10_why_19 : decode cX10_why 19 = .ok (.if_icmp .eq 6, 3) := by decide +kernel
theorem dX10_why_22 : decode cX10_why 22 = .ok (.bipush (-12), 2) := by decide +kernel
theorem dX10_why_24 : decode cX10_why 24 = .ok (.ireturn, 1) := by decide +kernel
theorem dX10_why_25 : decode cX10_why 25 = .ok (.iload_n 3, 1) := by decide +kernel
theorem dX10_why_26 : decode cX10_why 26 = .ok (.ifCond .lt 16, 3) := by decide +kernel
theorem dX10_why_29 : decode cX10_why 29 = .ok (.iload 4, 2) := by decide +kernel
theorem dX10_why_31 : decode cX10_why 31 = .ok (.aload_n 0, 1) := by decide +kernel
theorem dX10_why_32 : decode cX10_why 32 = .ok (.getfield 47, 3) := by decide +kernel
theorem dX10_why_35 : decode cX10_why 35 = .ok (.iload_n 1, 1) := by decide +kernel
theorem dX10_why_36 : decode cX10_why 36 = .ok (.iaload, 1) := by decide +kernel
theorem dX10_why_37 : decode cX10_why 37 = .ok (.iload_n 3, 1) := by decide +kernel
theorem dX10_why_38 : decode cX10_why 38 = .ok (.isub, 1) := by decide +kernel
theorem dX10_why_39 : decode cX10_why 39 = .ok (.if_icmp .le 8, 3) := by decide +kernel
theorem dX10_why_42 : decode cX10_why 42 = .ok (.bipush (-13), 2) := by decide +kernel
theorem dX10_why_44 : decode cX10_why 44 = .ok (.goto 4, 3) := by decide +kernel
theorem dX10_why_47 : decode cX10_why 47 = .ok (.iconst 0, 1) := by decide +kernel
theorem dX10_why_48 : decode cX10_why 48 = .ok (.ireturn, 1) := by decide +kernel
theorem dX10_item_0 : decode cX10_item 0 = .ok (.iload_n 1, 1) := by decide +kernel
theorem dX10_item_1 : decode cX10_item 1 = .ok (.invokestatic 235, 3) := by decide +kernel
theorem dX10_item_4 : decode cX10_item 4 = .ok (.ifCond .eq 15, 3) := by decide +kernel
theorem dX10_item_7 : decode cX10_item 7 = .ok (.iload_n 2, 1) := by decide +kernel
theorem dX10_item_8 : decode cX10_item 8 = .ok (.i2l, 1) := by decide +kernel
theorem dX10_item_9 : decode cX10_item 9 = .ok (.lconst 0, 1) := by decide +kernel
theorem dX10_item_10 : decode cX10_item 10 = .ok (.ldc2_w 233, 3) := by decide +kernel
theorem dX10_item_13 : decode cX10_item 13 = .ok (.invokestatic 77, 3) := by decide +kernel
theorem dX10_item_16 : decode cX10_item 16 = .ok (.ifCond .ne 7, 3) := by decide +kernel
theorem dX10_item_19 : decode cX10_item 19 = .ok (.ldc2_w 238, 3) := by decide +kernel
theorem dX10_item_22 : decode cX10_item 22 = .ok (.lreturn, 1) := by decide +kernel
theorem dX10_item_23 : decode cX10_item 23 = .ok (.aload_n 0, 1) := by decide +kernel
theorem dX10_item_24 : decode cX10_item 24 = .ok (.iload_n 1, 1) := by decide +kernel
theorem dX10_item_25 : decode cX10_item 25 = .ok (.iload_n 2, 1) := by decide +kernel
theorem dX10_item_26 : decode cX10_item 26 = .ok (.iload_n 3, 1) := by decide +kernel
theorem dX10_item_27 : decode cX10_item 27 = .ok (.iconst 1, 1) := by decide +kernel
theorem dX10_item_28 : decode cX10_item 28 = .ok (.invokevirtual 240, 3) := by decide +kernel
theorem dX10_item_31 : decode cX10_item 31 = .ok (.istore 6, 2) := by decide +kernel
theorem dX10_item_33 : decode cX10_item 33 = .ok (.iload 6, 2) := by decide +kernel
theorem dX10_item_35 : decode cX10_item 35 = .ok (.ifCond .ge 7, 3) := by decide +kernel
theorem dX10_item_38 : decode cX10_item 38 = .ok (.iload 6, 2) := by decide +kernel
theorem dX10_item_40 : decode cX10_item 40 = .ok (.i2l, 1) := by decide +kernel
theorem dX10_item_41 : decode cX10_item 41 = .ok (.lreturn, 1) := by decide +kernel
theorem dX10_item_42 : decode cX10_item 42 = .ok (.aload_n 0, 1) := by decide +kernel
theorem dX10_item_43 : decode cX10_item 43 = .ok (.getfield 50, 3) := by decide +kernel
theorem dX10_item_46 : decode cX10_item 46 = .ok (.bipush 24, 2) := by decide +kernel
theorem dX10_item_48 : decode cX10_item 48 = .ok (.iload_n 1, 1) := by decide +kernel
theorem dX10_item_49 : decode cX10_item 49 = .ok (.imul, 1) := by decide +kernel
theorem dX10_item_50 : decode cX10_item 50 = .ok (.iload_n 3, 1) := by decide +kernel
theorem dX10_item_51 : decode cX10_item 51 = .ok (.iadd, 1) := by decide +kernel
theorem dX10_item_52 : decode cX10_item 52 = .ok (.lload 4, 2) := by decide +kernel
theorem dX10_item_54 : decode cX10_item 54 = .ok (.iload_n 2, 1) := by decide +kernel
theorem dX10_item_55 : decode cX10_item 55 = .ok (.invokestatic 244, 3) := by decide +kernel
theorem dX10_item_58 : decode cX10_item 58 = .ok (.lastore, 1) := by decide +kernel
theorem dX10_item_59 : decode cX10_item 59 = .ok (.aload_n 0, 1) := by decide +kernel
theorem dX10_item_60 : decode cX10_item 60 = .ok (.getfield 50, 3) := by decide +kernel
theorem dX10_item_63 : decode cX10_item 63 = .ok (.bipush 24, 2) := by decide +kernel
theorem dX10_item_65 : decode cX10_item 65 = .ok (.iload_n 1, 1) := by decide +kernel
theorem dX10_item_66 : decode cX10_item 66 = .ok (.imul, 1) := by decide +kernel
theorem dX10_item_67 : decode cX10_item 67 = .ok (.iload_n 3, 1) := by decide +kernel
theorem dX10_item_68 : decode cX10_item 68 = .ok (.iadd, 1) := by decide +kernel
theorem dX10_item_69 : decode cX10_item 69 = .ok (.laload, 1) := by decide +kernel
theorem dX10_item_70 : decode cX10_item 70 = .ok (.lreturn, 1) := by decide +kernel
theorem dX10_copy_0 : decode cX10_copy 0 = .ok (.iload_n 1, 1) := by decide +kernel
theorem dX10_copy_1 : decode cX10_copy 1 = .ok (.invokestatic 235, 3) := by decide +kernel
theorem dX10_copy_4 : decode cX10_copy 4 = .ok (.ifCond .eq 10, 3) := by decide +kernel
theorem dX10_copy_7 : decode cX10_copy 7 = .ok (.iload_n 3, 1) := by decide +kernel
theorem dX10_copy_8 : decode cX10_copy 8 = .ok (.invokestatic 235, 3) := by decide +kernel
theorem dX10_copy_11 : decode cX10_copy 11 = .ok (.ifCond .ne 5, 3) := by decide +kernel
theorem dX10_copy_14 : decode cX10_copy 14 = .ok (.iconst (-1), 1) := by decide +kernel
theorem dX10_copy_15 : decode cX10_copy 15 = .ok (.ireturn, 1) := by decide +kernel
theorem dX10_copy_16 : decode cX10_copy 16 = .ok (.aload_n 0, 1) := by decide +kernel
theorem dX10_copy_17 : decode cX10_copy 17 = .ok (.getfield 44, 3) := by decide +kernel
theorem dX10_copy_20 : decode cX10_copy 20 = .ok (.iload_n 1, 1) := by decide +kernel
theorem dX10_copy_21 : decode cX10_copy 21 = .ok (.iaload, 1) := by decide +kernel
theorem dX10_copy_22 : decode cX10_copy 22 = .ok (.ifCond .lt 12, 3) := by decide +kernel
theorem dX10_copy_25 : decode cX10_copy 25 = .ok (.aload_n 0, 1) := by decide +kernel
theorem dX10_copy_26 : decode cX10_copy 26 = .ok (.getfield 44, 3) := by decide +kernel
theorem dX10_copy_29 : decode cX10_copy 29 = .ok (.iload_n 3, 1) := by decide +kernel
theorem dX10_copy_30 : decode cX10_copy 30 = .ok (.iaload, 1) := by decide +kernel
theorem dX10_copy_31 : decode cX10_copy 31 = .ok (.ifCond .ge 6, 3) := by decide +kernel
theorem dX10_copy_34 : decode cX10_copy 34 = .ok (.bipush (-11), 2) := by decide +kernel
theorem dX10_copy_36 : decode cX10_copy 36 = .ok (.ireturn, 1) := by decide +kernel
theorem dX10_copy_37 : decode cX10_copy 37 = .ok (.aload_n 0, 1) := by decide +kernel
theorem dX10_copy_38 : decode cX10_copy 38 = .ok (.getfield 44, 3) := by decide +kernel
theorem dX10_copy_41 : decode cX10_copy 41 = .ok (.iload_n 1, 1) := by decide +kernel
theorem dX10_copy_42 : decode cX10_copy 42 = .ok (.iaload, 1) := by decide +kernel
theorem dX10_copy_43 : decode cX10_copy 43 = .ok (.aload_n 0, 1) := by decide +kernel
theorem dX10_copy_44 : decode cX10_copy 44 = .ok (.getfield 44, 3) := by decide +kernel
theorem dX10_copy_47 : decode cX10_copy 47 = .ok (.iload_n 3, 1) := by decide +kernel
theorem dX10_copy_48 : decode cX10_copy 48 = .ok (.iaload, 1) := by decide +kernel
theorem dX10_copy_49 : decode cX10_copy 49 = .ok (.if_icmp .eq 6, 3) := by decide +kernel
theorem dX10_copy_52 : decode cX10_copy 52 = .ok (.bipush (-12), 2) := by decide +kernel
theorem dX10_copy_54 : decode cX10_copy 54 = .ok (.ireturn, 1) := by decide +kernel
theorem dX10_copy_55 : decode cX10_copy 55 = .ok (.iload 5, 2) := by decide +kernel
theorem dX10_copy_57 : decode cX10_copy 57 = .ok (.ifCond .lt 47, 3) := by decide +kernel
theorem dX10_copy_60 : decode cX10_copy 60 = .ok (.iload_n 2, 1) := by decide +kernel
theorem dX10_copy_61 : decode cX10_copy 61 = .ok (.ifCond .lt 43, 3) := by decide +kernel
