theorem dX10_tried_103 : decode cX10_tried 103 = .ok (.goto (-64), 3) := by decide +kernel
theorem dX10_tried_106 : decode cX10_tried 106 = .ok (.iload 7, 2) := by decide +kernel
theorem dX10_tried_108 : decode cX10_tried 108 = .ok (.iload 5, 2) := by decide +kernel
theorem dX10_tried_110 : decode cX10_tried 110 = .ok (.if_icmp .le 8, 3) := by decide +kernel
theorem dX10_tried_113 : decode cX10_tried 113 = .ok (.iload 7, 2) := by decide +kernel
theorem dX10_tried_115 : decode cX10_tried 115 = .ok (.goto 5, 3) := by decide +kernel
theorem dX10_tried_118 : decode cX10_tried 118 = .ok (.iload 5, 2) := by decide +kernel
theorem dX10_tried_120 : decode cX10_tried 120 = .ok (.istore 5, 2) := by decide +kernel
theorem dX10_tried_122 : decode cX10_tried 122 = .ok (.iinc 6 1, 3) := by decide +kernel
theorem dX10_tried_125 : decode cX10_tried 125 = .ok (.goto (-99), 3) := by decide +kernel
theorem dX10_tried_128 : decode cX10_tried 128 = .ok (.iload 5, 2) := by decide +kernel
theorem dX10_tried_130 : decode cX10_tried 130 = .ok (.iload_n 3, 1) := by decide +kernel
theorem dX10_tried_131 : decode cX10_tried 131 = .ok (.if_icmp .ge 8, 3) := by decide +kernel
theorem dX10_tried_134 : decode cX10_tried 134 = .ok (.iload 4, 2) := by decide +kernel
theorem dX10_tried_136 : decode cX10_tried 136 = .ok (.goto 4, 3) := by decide +kernel
theorem dX10_tried_139 : decode cX10_tried 139 = .ok (.iload_n 2, 1) := by decide +kernel
theorem dX10_tried_140 : decode cX10_tried 140 = .ok (.istore_n 2, 1) := by decide +kernel
theorem dX10_tried_141 : decode cX10_tried 141 = .ok (.iload 5, 2) := by decide +kernel
theorem dX10_tried_143 : decode cX10_tried 143 = .ok (.iload_n 3, 1) := by decide +kernel
theorem dX10_tried_144 : decode cX10_tried 144 = .ok (.if_icmp .ge 8, 3) := by decide +kernel
theorem dX10_tried_147 : decode cX10_tried 147 = .ok (.iload 5, 2) := by decide +kernel
theorem dX10_tried_149 : decode cX10_tried 149 = .ok (.goto 4, 3) := by decide +kernel
theorem dX10_tried_152 : decode cX10_tried 152 = .ok (.iload_n 3, 1) := by decide +kernel
theorem dX10_tried_153 : decode cX10_tried 153 = .ok (.istore_n 3, 1) := by decide +kernel
theorem dX10_tried_154 : decode cX10_tried 154 = .ok (.iinc 4 1, 3) := by decide +kernel
theorem dX10_tried_157 : decode cX10_tried 157 = .ok (.goto (-148), 3) := by decide +kernel
theorem dX10_tried_160 : decode cX10_tried 160 = .ok (.iload_n 2, 1) := by decide +kernel
theorem dX10_tried_161 : decode cX10_tried 161 = .ok (.ireturn, 1) := by decide +kernel
theorem dX10_setOf_0 : decode cX10_setOf 0 = .ok (.iconst 0, 1) := by decide +kernel
theorem dX10_setOf_1 : decode cX10_setOf 1 = .ok (.istore_n 2, 1) := by decide +kernel
theorem dX10_setOf_2 : decode cX10_setOf 2 = .ok (.iconst 0, 1) := by decide +kernel
theorem dX10_setOf_3 : decode cX10_setOf 3 = .ok (.istore_n 3, 1) := by decide +kernel
theorem dX10_setOf_4 : decode cX10_setOf 4 = .ok (.iload_n 3, 1) := by decide +kernel
theorem dX10_setOf_5 : decode cX10_setOf 5 = .ok (.aload_n 0, 1) := by decide +kernel
theorem dX10_setOf_6 : decode cX10_setOf 6 = .ok (.getfield 7, 3) := by decide +kernel
theorem dX10_setOf_9 : decode cX10_setOf 9 = .ok (.iconst 0, 1) := by decide +kernel
theorem dX10_setOf_10 : decode cX10_setOf 10 = .ok (.iaload, 1) := by decide +kernel
theorem dX10_setOf_11 : decode cX10_setOf 11 = .ok (.if_icmp .ge 46, 3) := by decide +kernel
theorem dX10_setOf_14 : decode cX10_setOf 14 = .ok (.iload_n 2, 1) := by decide +kernel
theorem dX10_setOf_15 : decode cX10_setOf 15 = .ok (.iload_n 1, 1) := by decide +kernel
theorem dX10_setOf_16 : decode cX10_setOf 16 = .ok (.ifCond .eq 14, 3) := by decide +kernel
theorem dX10_setOf_19 : decode cX10_setOf 19 = .ok (.aload_n 0, 1) := by decide +kernel
theorem dX10_setOf_20 : decode cX10_setOf 20 = .ok (.iload_n 3, 1) := by decide +kernel
theorem dX10_setOf_21 : decode cX10_setOf 21 = .ok (.invokevirtual 142, 3) := by decide +kernel
theorem dX10_setOf_24 : decode cX10_setOf 24 = .ok (.ifCond .eq 24, 3) := by decide +kernel
theorem dX10_setOf_27 : decode cX10_setOf 27 = .ok (.goto 15, 3) := by decide +kernel
theorem dX10_setOf_30 : decode cX10_setOf 30 = .ok (.aload_n 0, 1) := by decide +kernel
theorem dX10_setOf_31 : decode cX10_setOf 31 = .ok (.getfield 7, 3) := by decide +kernel
theorem dX10_setOf_34 : decode cX10_setOf 34 = .ok (.bipush 36, 2) := by decide +kernel
theorem dX10_setOf_36 : decode cX10_setOf 36 = .ok (.iload_n 3, 1) := by decide +kernel
theorem dX10_setOf_37 : decode cX10_setOf 37 = .ok (.iadd, 1) := by decide +kernel
theorem dX10_setOf_38 : decode cX10_setOf 38 = .ok (.iaload, 1) := by decide +kernel
theorem dX10_setOf_39 : decode cX10_setOf 39 = .ok (.ifCond .le 9, 3) := by decide +kernel
theorem dX10_setOf_42 : decode cX10_setOf 42 = .ok (.iconst 1, 1) := by decide +kernel
theorem dX10_setOf_43 : decode cX10_setOf 43 = .ok (.iload_n 3, 1) := by decide +kernel
theorem dX10_setOf_44 : decode cX10_setOf 44 = .ok (.ishl, 1) := by decide +kernel
theorem dX10_setOf_45 : decode cX10_setOf 45 = .ok (.goto 4, 3) := by decide +kernel
theorem dX10_setOf_48 : decode cX10_setOf 48 = .ok (.iconst 0, 1) := by decide +kernel
theorem dX10_setOf_49 : decode cX10_setOf 49 = .ok (.ior, 1) := by decide +kernel
theorem dX10_setOf_50 : decode cX10_setOf 50 = .ok (.istore_n 2, 1) := by decide +kernel
theorem dX10_setOf_51 : decode cX10_setOf 51 = .ok (.iinc 3 1, 3) := by decide +kernel
theorem dX10_setOf_54 : decode cX10_setOf 54 = .ok (.goto (-50), 3) := by decide +kernel
theorem dX10_setOf_57 : decode cX10_setOf 57 = .ok (.iload_n 2, 1) := by decide +kernel
theorem dX10_setOf_58 : decode cX10_setOf 58 = .ok (.ireturn, 1) := by decide +kernel
theorem dX10_wearOfAll_0 : decode cX10_wearOfAll 0 = .ok (.iconst 0, 1) := by decide +kernel
theorem dX10_wearOfAll_1 : decode cX10_wearOfAll 1 = .ok (.istore_n 1, 1) := by decide +kernel
theorem dX10_wearOfAll_2 : decode cX10_wearOfAll 2 = .ok (.iconst 0, 1) := by decide +kernel
theorem dX10_wearOfAll_3 : decode cX10_wearOfAll 3 = .ok (.istore_n 2, 1) := by decide +kernel
theorem dX10_wearOfAll_4 : decode cX10_wearOfAll 4 = .ok (.iload_n 2, 1) := by decide +kernel
theorem dX10_wearOfAll_5 : decode cX10_wearOfAll 5 = .ok (.aload_n 0, 1) := by decide +kernel
theorem dX10_wearOfAll_6 : decode cX10_wearOfAll 6 = .ok (.getfield 7, 3) := by decide +kernel
theorem dX10_wearOfAll_9 : decode cX10_wearOfAll 9 = .ok (.iconst 0, 1) := by decide +kernel
theorem dX10_wearOfAll_10 : decode cX10_wearOfAll 10 = .ok (.iaload, 1) := by decide +kernel
theorem dX10_wearOfAll_11 : decode cX10_wearOfAll 11 = .ok (.if_icmp .ge 21, 3) := by decide +kernel
theorem dX10_wearOfAll_14 : decode cX10_wearOfAll 14 = .ok (.iload_n 1, 1) := by decide +kernel
theorem dX10_wearOfAll_15 : decode cX10_wearOfAll 15 = .ok (.aload_n 0, 1) := by decide +kernel
theorem dX10_wearOfAll_16 : decode cX10_wearOfAll 16 = .ok (.getfield 7, 3) := by decide +kernel
theorem dX10_wearOfAll_19 : decode cX10_wearOfAll 19 = .ok (.bipush 28, 2) := by decide +kernel
theorem dX10_wearOfAll_21 : decode cX10_wearOfAll 21 = .ok (.iload_n 2, 1) := by decide +kernel
theorem dX10_wearOfAll_22 : decode cX10_wearOfAll 22 = .ok (.iadd, 1) := by decide +kernel
theorem dX10_wearOfAll_23 : decode cX10_wearOfAll 23 = .ok (.iaload, 1) := by decide +kernel
theorem dX10_wearOfAll_24 : decode cX10_wearOfAll 24 = .ok (.iadd, 1) := by decide +kernel
theorem dX10_wearOfAll_25 : decode cX10_wearOfAll 25 = .ok (.istore_n 1, 1) := by decide +kernel
theorem dX10_wearOfAll_26 : decode cX10_wearOfAll 26 = .ok (.iinc 2 1, 3) := by decide +kernel
theorem dX10_wearOfAll_29 : decode cX10_wearOfAll 29 = .ok (.goto (-25), 3) := by decide +kernel
theorem dX10_wearOfAll_32 : decode cX10_wearOfAll 32 = .ok (.iload_n 1, 1) := by decide +kernel
theorem dX10_wearOfAll_33 : decode cX10_wearOfAll 33 = .ok (.ireturn, 1) := by decide +kernel
theorem dX10_count_0 : decode cX10_count 0 = .ok (.iload_n 1, 1) := by decide +kernel
theorem dX10_count_1 : decode cX10_count 1 = .ok (.tableswitch 130 0 8 #[51, 58, 77, 96, 103, 109, 115, 120, 125], 51) := by decide +kernel
theorem dX10_count_52 : decode cX10_count 52 = .ok (.aload_n 0, 1) := by decide +kernel
theorem dX10_count_53 : decode cX10_count 53 = .ok (.getfield 7, 3) := by decide +kernel
theorem dX10_count_56 : decode cX10_count 56 = .ok (.iconst 0, 1) := by decide +kernel
theorem dX10_count_57 : decode cX10_count 57 = .ok (.iaload, 1) := by decide +kernel
theorem dX10_count_58 : decode cX10_count 58 = .ok (.ireturn, 1) := by decide +kernel
theorem dX10_count_59 : decode cX10_count 59 = .ok (.aload_n 0, 1) := by decide +kernel
theorem dX10_count_60 : decode cX10_count 60 = .ok (.invokevirtual 159, 3) := by decide +kernel
theorem dX10_count_63 : decode cX10_count 63 = .ok (.ifCond .eq 12, 3) := by decide +kernel
theorem dX10_count_66 : decode cX10_count 66 = .ok (.aload_n 0, 1) := by decide +kernel
theorem dX10_count_67 : decode cX10_count 67 = .ok (.getfield 7, 3) := by decide +kernel
theorem dX10_count_70 : decode cX10_count 70 = .ok (.iconst 1, 1) := by decide +kernel
theorem dX10_count_71 : decode cX10_count 71 = .ok (.iaload, 1) := by decide +kernel
theorem dX10_count_72 : decode cX10_count 72 = .ok (.goto 5, 3) := by decide +kernel
theorem dX10_count_75 : decode cX10_count 75 = .ok (.bipush (-4), 2) := by decide +kernel
theorem dX10_count_77 : decode cX10_count 77 = .ok (.ireturn, 1) := by decide +kernel
theorem dX10_count_78 : decode cX10_count 78 = .ok (.aload_n 0, 1) := by decide +kernel
theorem dX10_count_79 : decode cX10_count 79 = .ok (.invokevirtual 159, 3) := by decide +kernel
theorem dX10_count_82 : decode cX10_count 82 = .ok (.ifCond .eq 12, 3) := by decide +kernel
theorem dX10_count_85 : decode cX10_count 85 = .ok (.aload_n 0, 1) := by decide +kernel
theorem dX10_count_86 : decode cX10_count 86 = .ok (.getfield 7, 3) := by decide +kernel
theorem dX10_count_89 : decode cX10_count 89 = .ok (.iconst 2, 1) := by decide +kernel
theorem dX10_count_90 : decode cX10_count 90 = .ok (.iaload, 1) := by decide +kernel
theorem dX10_count_91 : decode cX10_count 91 = .ok (.goto 5, 3) := by decide +kernel
theorem dX10_count_94 : decode cX10_count 94 = .ok (.bipush (-4), 2) := by decide +kernel
theorem dX10_count_96 : decode cX10_count 96 = .ok (.ireturn, 1) := by decide +kernel
theorem dX10_count_97 : decode cX10_count 97 = .ok (.aload_n 0, 1) := by decide +kernel
theorem dX10_count_98 : decode cX10_count 98 = .ok (.getfield 7, 3) := by decide +kernel
theorem dX10_count_101 : decode cX10_count 101 = .ok (.iconst 3, 1) := by decide +kernel
theorem dX10_count_102 : decode cX10_count 102 = .ok (.iaload, 1) := by decide +kernel
theorem dX10_count_103 : decode cX10_count 103 = .ok (.ireturn, 1) := by decide +kernel
theorem dX10_count_104 : decode cX10_count 104 = .ok (.aload_n 0, 1) := by decide +kernel
theorem dX10_count_105 : decode cX10_count 105 = .ok (.iconst 0, 1) := by decide +kernel
theorem dX10_count_106 : decode cX10_count 106 = .ok (.invokevirtual 284, 3) := by decide +kernel
theorem dX10_count_109 : decode cX10_count 109 = .ok (.ireturn, 1) := by decide +kernel
theorem dX10_count_110 : decode cX10_count 110 = .ok (.aload_n 0, 1) := by decide +kernel
theorem dX10_count_111 : decode cX10_count 111 = .ok (.iconst 1, 1) := by decide +kernel
theorem dX10_count_112 : decode cX10_count 112 = .ok (.invokevirtual 284, 3) := by decide +kernel
theorem dX10_count_115 : decode cX10_count 115 = .ok (.ireturn, 1) := by decide +kernel
theorem dX10_count_116 : decode cX10_count 116 = .ok (.aload_n 0, 1) := by decide +kernel
theorem dX10_count_117 : decode cX10_count 117 = .ok (.invokevirtual 288, 3) := by decide +kernel
theorem dX10_count_120 : decode cX10_count 120 = .ok (.ireturn, 1) := by decide +kernel
theorem dX10_count_121 : decode cX10_count 121 = .ok (.aload_n 0, 1) := by decide +kernel
theorem dX10_count_122 : decode cX10_count 122 = .ok (.getfield 130, 3) := by decide +kernel
theorem dX10_count_125 : decode cX10_count 125 = .ok (.ireturn, 1) := by decide +kernel
theorem dX10_count_126 : decode cX10_count 126 = .ok (.aload_n 0, 1) := by decide +kernel
theorem dX10_count_127 : decode cX10_count 127 = .ok (.getfield 81, 3) := by decide +kernel
theorem dX10_count_130 : decode cX10_count 130 = .ok (.ireturn, 1) := by decide +kernel
theorem dX10_count_131 : decode cX10_count 131 = .ok (.iconst (-1), 1) := by decide +kernel
theorem dX10_count_132 : decode cX10_count 132 = .ok (.ireturn, 1) := by decide +kernel
