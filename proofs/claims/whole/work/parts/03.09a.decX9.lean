theorem dX9_init_0 : decode cX9_init 0 = .ok (.aload_n 0, 1) := by decide +kernel
theorem dX9_init_1 : decode cX9_init 1 = .ok (.invokespecial 1, 3) := by decide +kernel
theorem dX9_init_4 : decode cX9_init 4 = .ok (.aload_n 0, 1) := by decide +kernel
theorem dX9_init_5 : decode cX9_init 5 = .ok (.new 7, 3) := by decide +kernel
theorem dX9_init_8 : decode cX9_init 8 = .ok (.dup, 1) := by decide +kernel
theorem dX9_init_9 : decode cX9_init 9 = .ok (.invokespecial 9, 3) := by decide +kernel
theorem dX9_init_12 : decode cX9_init 12 = .ok (.putfield 10, 3) := by decide +kernel
theorem dX9_init_15 : decode cX9_init 15 = .ok (.aload_n 0, 1) := by decide +kernel
theorem dX9_init_16 : decode cX9_init 16 = .ok (.new 16, 3) := by decide +kernel
theorem dX9_init_19 : decode cX9_init 19 = .ok (.dup, 1) := by decide +kernel
theorem dX9_init_20 : decode cX9_init 20 = .ok (.invokespecial 18, 3) := by decide +kernel
theorem dX9_init_23 : decode cX9_init 23 = .ok (.putfield 19, 3) := by decide +kernel
theorem dX9_init_26 : decode cX9_init 26 = .ok (.aload_n 0, 1) := by decide +kernel
theorem dX9_init_27 : decode cX9_init 27 = .ok (.new 23, 3) := by decide +kernel
theorem dX9_init_30 : decode cX9_init 30 = .ok (.dup, 1) := by decide +kernel
theorem dX9_init_31 : decode cX9_init 31 = .ok (.invokespecial 25, 3) := by decide +kernel
theorem dX9_init_34 : decode cX9_init 34 = .ok (.putfield 26, 3) := by decide +kernel
theorem dX9_init_37 : decode cX9_init 37 = .ok (.aload_n 0, 1) := by decide +kernel
theorem dX9_init_38 : decode cX9_init 38 = .ok (.new 30, 3) := by decide +kernel
theorem dX9_init_41 : decode cX9_init 41 = .ok (.dup, 1) := by decide +kernel
theorem dX9_init_42 : decode cX9_init 42 = .ok (.invokespecial 32, 3) := by decide +kernel
theorem dX9_init_45 : decode cX9_init 45 = .ok (.putfield 33, 3) := by decide +kernel
theorem dX9_init_48 : decode cX9_init 48 = .ok (.aload_n 0, 1) := by decide +kernel
theorem dX9_init_49 : decode cX9_init 49 = .ok (.iconst 2, 1) := by decide +kernel
theorem dX9_init_50 : decode cX9_init 50 = .ok (.anewarray 23, 3) := by decide +kernel
theorem dX9_init_53 : decode cX9_init 53 = .ok (.putfield 37, 3) := by decide +kernel
theorem dX9_init_56 : decode cX9_init 56 = .ok (.aload_n 0, 1) := by decide +kernel
theorem dX9_init_57 : decode cX9_init 57 = .ok (.iconst 4, 1) := by decide +kernel
theorem dX9_init_58 : decode cX9_init 58 = .ok (.anewarray 41, 3) := by decide +kernel
theorem dX9_init_61 : decode cX9_init 61 = .ok (.putfield 43, 3) := by decide +kernel
theorem dX9_init_64 : decode cX9_init 64 = .ok (.aload_n 0, 1) := by decide +kernel
theorem dX9_init_65 : decode cX9_init 65 = .ok (.new 47, 3) := by decide +kernel
theorem dX9_init_68 : decode cX9_init 68 = .ok (.dup, 1) := by decide +kernel
theorem dX9_init_69 : decode cX9_init 69 = .ok (.invokespecial 49, 3) := by decide +kernel
theorem dX9_init_72 : decode cX9_init 72 = .ok (.putfield 50, 3) := by decide +kernel
theorem dX9_init_75 : decode cX9_init 75 = .ok (.aload_n 0, 1) := by decide +kernel
theorem dX9_init_76 : decode cX9_init 76 = .ok (.new 54, 3) := by decide +kernel
theorem dX9_init_79 : decode cX9_init 79 = .ok (.dup, 1) := by decide +kernel
theorem dX9_init_80 : decode cX9_init 80 = .ok (.invokespecial 56, 3) := by decide +kernel
theorem dX9_init_83 : decode cX9_init 83 = .ok (.putfield 57, 3) := by decide +kernel
theorem dX9_init_86 : decode cX9_init 86 = .ok (.aload_n 0, 1) := by decide +kernel
theorem dX9_init_87 : decode cX9_init 87 = .ok (.new 61, 3) := by decide +kernel
theorem dX9_init_90 : decode cX9_init 90 = .ok (.dup, 1) := by decide +kernel
theorem dX9_init_91 : decode cX9_init 91 = .ok (.invokespecial 63, 3) := by decide +kernel
theorem dX9_init_94 : decode cX9_init 94 = .ok (.putfield 64, 3) := by decide +kernel
theorem dX9_init_97 : decode cX9_init 97 = .ok (.iconst 0, 1) := by decide +kernel
theorem dX9_init_98 : decode cX9_init 98 = .ok (.istore_n 1, 1) := by decide +kernel
theorem dX9_init_99 : decode cX9_init 99 = .ok (.iload_n 1, 1) := by decide +kernel
theorem dX9_init_100 : decode cX9_init 100 = .ok (.iconst 2, 1) := by decide +kernel
theorem dX9_init_101 : decode cX9_init 101 = .ok (.if_icmp .ge 22, 3) := by decide +kernel
theorem dX9_init_104 : decode cX9_init 104 = .ok (.aload_n 0, 1) := by decide +kernel
theorem dX9_init_105 : decode cX9_init 105 = .ok (.getfield 37, 3) := by decide +kernel
theorem dX9_init_108 : decode cX9_init 108 = .ok (.iload_n 1, 1) := by decide +kernel
theorem dX9_init_109 : decode cX9_init 109 = .ok (.new 23, 3) := by decide +kernel
theorem dX9_init_112 : decode cX9_init 112 = .ok (.dup, 1) := by decide +kernel
theorem dX9_init_113 : decode cX9_init 113 = .ok (.invokespecial 25, 3) := by decide +kernel
theorem dX9_init_116 : decode cX9_init 116 = .ok (.aastore, 1) := by decide +kernel
theorem dX9_init_117 : decode cX9_init 117 = .ok (.iinc 1 1, 3) := by decide +kernel
theorem dX9_init_120 : decode cX9_init 120 = .ok (.goto (-21), 3) := by decide +kernel
theorem dX9_init_123 : decode cX9_init 123 = .ok (.iconst 0, 1) := by decide +kernel
theorem dX9_init_124 : decode cX9_init 124 = .ok (.istore_n 1, 1) := by decide +kernel
theorem dX9_init_125 : decode cX9_init 125 = .ok (.iload_n 1, 1) := by decide +kernel
theorem dX9_init_126 : decode cX9_init 126 = .ok (.iconst 4, 1) := by decide +kernel
theorem dX9_init_127 : decode cX9_init 127 = .ok (.if_icmp .ge 22, 3) := by decide +kernel
theorem dX9_init_130 : decode cX9_init 130 = .ok (.aload_n 0, 1) := by decide +kernel
theorem dX9_init_131 : decode cX9_init 131 = .ok (.getfield 43, 3) := by decide +kernel
theorem dX9_init_134 : decode cX9_init 134 = .ok (.iload_n 1, 1) := by decide +kernel
theorem dX9_init_135 : decode cX9_init 135 = .ok (.new 41, 3) := by decide +kernel
theorem dX9_init_138 : decode cX9_init 138 = .ok (.dup, 1) := by decide +kernel
theorem dX9_init_139 : decode cX9_init 139 = .ok (.invokespecial 68, 3) := by decide +kernel
theorem dX9_init_142 : decode cX9_init 142 = .ok (.aastore, 1) := by decide +kernel
theorem dX9_init_143 : decode cX9_init 143 = .ok (.iinc 1 1, 3) := by decide +kernel
theorem dX9_init_146 : decode cX9_init 146 = .ok (.goto (-21), 3) := by decide +kernel
theorem dX9_init_149 : decode cX9_init 149 = .ok (.return_, 1) := by decide +kernel
theorem dX9_feed_0 : decode cX9_feed 0 = .ok (.iload_n 1, 1) := by decide +kernel
theorem dX9_feed_1 : decode cX9_feed 1 = .ok (.iconst 0, 1) := by decide +kernel
theorem dX9_feed_2 : decode cX9_feed 2 = .ok (.sipush 255, 3) := by decide +kernel
theorem dX9_feed_5 : decode cX9_feed 5 = .ok (.invokestatic 69, 3) := by decide +kernel
theorem dX9_feed_8 : decode cX9_feed 8 = .ok (.ifCond .ne 5, 3) := by decide +kernel
theorem dX9_feed_11 : decode cX9_feed 11 = .ok (.iconst (-1), 1) := by decide +kernel
theorem dX9_feed_12 : decode cX9_feed 12 = .ok (.ireturn, 1) := by decide +kernel
theorem dX9_feed_13 : decode cX9_feed 13 = .ok (.aload_n 0, 1) := by decide +kernel
theorem dX9_feed_14 : decode cX9_feed 14 = .ok (.getfield 10, 3) := by decide +kernel
theorem dX9_feed_17 : decode cX9_feed 17 = .ok (.iload_n 1, 1) := by decide +kernel
theorem dX9_feed_18 : decode cX9_feed 18 = .ok (.invokevirtual 73, 3) := by decide +kernel
theorem dX9_feed_21 : decode cX9_feed 21 = .ok (.ireturn, 1) := by decide +kernel
theorem dX9_strip_0 : decode cX9_strip 0 = .ok (.aload_n 0, 1) := by decide +kernel
theorem dX9_strip_1 : decode cX9_strip 1 = .ok (.getfield 19, 3) := by decide +kernel
theorem dX9_strip_4 : decode cX9_strip 4 = .ok (.aload_n 0, 1) := by decide +kernel
theorem dX9_strip_5 : decode cX9_strip 5 = .ok (.getfield 10, 3) := by decide +kernel
theorem dX9_strip_8 : decode cX9_strip 8 = .ok (.invokevirtual 77, 3) := by decide +kernel
theorem dX9_strip_11 : decode cX9_strip 11 = .ok (.istore_n 1, 1) := by decide +kernel
theorem dX9_strip_12 : decode cX9_strip 12 = .ok (.aload_n 0, 1) := by decide +kernel
theorem dX9_strip_13 : decode cX9_strip 13 = .ok (.getfield 10, 3) := by decide +kernel
theorem dX9_strip_16 : decode cX9_strip 16 = .ok (.invokevirtual 81, 3) := by decide +kernel
theorem dX9_strip_19 : decode cX9_strip 19 = .ok (.iload_n 1, 1) := by decide +kernel
theorem dX9_strip_20 : decode cX9_strip 20 = .ok (.ifCond .ne 14, 3) := by decide +kernel
theorem dX9_strip_23 : decode cX9_strip 23 = .ok (.bipush (-100), 2) := by decide +kernel
theorem dX9_strip_25 : decode cX9_strip 25 = .ok (.aload_n 0, 1) := by decide +kernel
theorem dX9_strip_26 : decode cX9_strip 26 = .ok (.getfield 19, 3) := by decide +kernel
theorem dX9_strip_29 : decode cX9_strip 29 = .ok (.getfield 84, 3) := by decide +kernel
theorem dX9_strip_32 : decode cX9_strip 32 = .ok (.isub, 1) := by decide +kernel
theorem dX9_strip_33 : decode cX9_strip 33 = .ok (.ireturn, 1) := by decide +kernel
theorem dX9_strip_34 : decode cX9_strip 34 = .ok (.aload_n 0, 1) := by decide +kernel
theorem dX9_strip_35 : decode cX9_strip 35 = .ok (.getfield 26, 3) := by decide +kernel
theorem dX9_strip_38 : decode cX9_strip 38 = .ok (.aload_n 0, 1) := by decide +kernel
theorem dX9_strip_39 : decode cX9_strip 39 = .ok (.getfield 19, 3) := by decide +kernel
theorem dX9_strip_42 : decode cX9_strip 42 = .ok (.getfield 88, 3) := by decide +kernel
theorem dX9_strip_45 : decode cX9_strip 45 = .ok (.invokevirtual 91, 3) := by decide +kernel
theorem dX9_strip_48 : decode cX9_strip 48 = .ok (.aload_n 0, 1) := by decide +kernel
theorem dX9_strip_49 : decode cX9_strip 49 = .ok (.getfield 33, 3) := by decide +kernel
theorem dX9_strip_52 : decode cX9_strip 52 = .ok (.invokevirtual 95, 3) := by decide +kernel
theorem dX9_strip_55 : decode cX9_strip 55 = .ok (.aload_n 0, 1) := by decide +kernel
theorem dX9_strip_56 : decode cX9_strip 56 = .ok (.getfield 26, 3) := by decide +kernel
theorem dX9_strip_59 : decode cX9_strip 59 = .ok (.getfield 98, 3) := by decide +kernel
theorem dX9_strip_62 : decode cX9_strip 62 = .ok (.ireturn, 1) := by decide +kernel
theorem dX9_picture_0 : decode cX9_picture 0 = .ok (.aload_n 0, 1) := by decide +kernel
theorem dX9_picture_1 : decode cX9_picture 1 = .ok (.getfield 26, 3) := by decide +kernel
theorem dX9_picture_4 : decode cX9_picture 4 = .ok (.iload_n 1, 1) := by decide +kernel
theorem dX9_picture_5 : decode cX9_picture 5 = .ok (.invokevirtual 101, 3) := by decide +kernel
theorem dX9_picture_8 : decode cX9_picture 8 = .ok (.ifCond .ne 5, 3) := by decide +kernel
theorem dX9_picture_11 : decode cX9_picture 11 = .ok (.iconst (-1), 1) := by decide +kernel
theorem dX9_picture_12 : decode cX9_picture 12 = .ok (.ireturn, 1) := by decide +kernel
theorem dX9_picture_13 : decode cX9_picture 13 = .ok (.iload_n 2, 1) := by decide +kernel
theorem dX9_picture_14 : decode cX9_picture 14 = .ok (.tableswitch 132 0 7 #[46, 56, 66, 76, 86, 96, 105, 115], 46) := by decide +kernel
theorem dX9_picture_60 : decode cX9_picture 60 = .ok (.aload_n 0, 1) := by decide +kernel
theorem dX9_picture_61 : decode cX9_picture 61 = .ok (.getfield 26, 3) := by decide +kernel
theorem dX9_picture_64 : decode cX9_picture 64 = .ok (.getfield 105, 3) := by decide +kernel
theorem dX9_picture_67 : decode cX9_picture 67 = .ok (.iload_n 1, 1) := by decide +kernel
theorem dX9_picture_68 : decode cX9_picture 68 = .ok (.iaload, 1) := by decide +kernel
theorem dX9_picture_69 : decode cX9_picture 69 = .ok (.ireturn, 1) := by decide +kernel
theorem dX9_picture_70 : decode cX9_picture 70 = .ok (.aload_n 0, 1) := by decide +kernel
theorem dX9_picture_71 : decode cX9_picture 71 = .ok (.getfield 26, 3) := by decide +kernel
theorem dX9_picture_74 : decode cX9_picture 74 = .ok (.getfield 109, 3) := by decide +kernel
theorem dX9_picture_77 : decode cX9_picture 77 = .ok (.iload_n 1, 1) := by decide +kernel
theorem dX9_picture_78 : decode cX9_picture 78 = .ok (.iaload, 1) := by decide +kernel
theorem dX9_picture_79 : decode cX9_picture 79 = .ok (.ireturn, 1) := by decide +kernel
theorem dX9_picture_80 : decode cX9_picture 80 = .ok (.aload_n 0, 1) := by decide +kernel
theorem dX9_picture_81 : decode cX9_picture 81 = .ok (.getfield 26, 3) := by decide +kernel
theorem dX9_picture_84 : decode cX9_picture 84 = .ok (.getfield 112, 3) := by decide +kernel
theorem dX9_picture_87 : decode cX9_picture 87 = .ok (.iload_n 1, 1) := by decide +kernel
theorem dX9_picture_88 : decode cX9_picture 88 = .ok (.iaload, 1) := by decide +kernel
theorem dX9_picture_89 : decode cX9_picture 89 = .ok (.ireturn, 1) := by decide +kernel
theorem dX9_picture_90 : decode cX9_picture 90 = .ok (.aload_n 0, 1) := by decide +kernel
theorem dX9_picture_91 : decode cX9_picture 91 = .ok (.getfield 26, 3) := by decide +kernel
theorem dX9_picture_94 : decode cX9_picture 94 = .ok (.getfield 115, 3) := by decide +kernel
theorem dX9_picture_97 : decode cX9_picture 97 = .ok (.iload_n 1, 1) := by decide +kernel
theorem dX9_picture_98 : decode cX9_picture 98 = .ok (.iaload, 1) := by decide +kernel
theorem dX9_picture_99 : decode cX9_picture 99 = .ok (.ireturn, 1) := by decide +kernel
theorem dX9_picture_100 : decode cX9_picture 100 = .ok (.aload_n 0, 1) := by decide +kernel
theorem dX9_picture_101 : decode cX9_picture 101 = .ok (.getfield 26, 3) := by decide +kernel
theorem dX9_picture_104 : decode cX9_picture 104 = .ok (.getfield 118, 3) := by decide +kernel
theorem dX9_picture_107 : decode cX9_picture 107 = .ok (.iload_n 1, 1) := by decide +kernel
theorem dX9_picture_108 : decode cX9_picture 108 = .ok (.iaload, 1) := by decide +kernel
theorem dX9_picture_109 : decode cX9_picture 109 = .ok (.ireturn, 1) := by decide +kernel
theorem dX9_picture_110 : decode cX9_picture 110 = .ok (.aload_n 0, 1) := by decide +kernel
theorem dX9_picture_111 : decode cX9_picture 111 = .ok (.getfield 26, 3) := by decide +kernel
theorem dX9_picture_114 : decode cX9_picture 114 = .ok (.iload_n 1, 1) := by decide +kernel
theorem dX9_picture_115 : decode cX9_picture 115 = .ok (.invokevirtual 121, 3) := by decide +kernel
theorem dX9_picture_118 : decode cX9_picture 118 = .ok (.ireturn, 1) := by decide +kernel
theorem dX9_picture_119 : decode cX9_picture 119 = .ok (.aload_n 0, 1) := by decide +kernel
theorem dX9_picture_120 : decode cX9_picture 120 = .ok (.getfield 26, 3) := by decide +kernel
theorem dX9_picture_123 : decode cX9_picture 123 = .ok (.getfield 124, 3) := by decide +kernel
theorem dX9_picture_126 : decode cX9_picture 126 = .ok (.iload_n 1, 1) := by decide +kernel
theorem dX9_picture_127 : decode cX9_picture 127 = .ok (.iaload, 1) := by decide +kernel
theorem dX9_picture_128 : decode cX9_picture 128 = .ok (.ireturn, 1) := by decide +kernel
theorem dX9_picture_129 : decode cX9_picture 129 = .ok (.aload_n 0, 1) := by decide +kernel
theorem dX9_picture_130 : decode cX9_picture 130 = .ok (.getfield 26, 3) := by decide +kernel
theorem dX9_picture_133 : decode cX9_picture 133 = .ok (.iload_n 1, 1) := by decide +kernel
theorem dX9_picture_134 : decode cX9_picture 134 = .ok (.invokevirtual 127, 3) := by decide +kernel
theorem dX9_picture_137 : decode cX9_picture 137 = .ok (.ifCond .eq 7, 3) := by decide +kernel
theorem dX9_picture_140 : decode cX9_picture 140 = .ok (.iconst 1, 1) := by decide +kernel
theorem dX9_picture_141 : decode cX9_picture 141 = .ok (.goto 4, 3) := by decide +kernel
theorem dX9_picture_144 : decode cX9_picture 144 = .ok (.iconst 0, 1) := by decide +kernel
theorem dX9_picture_145 : decode cX9_picture 145 = .ok (.ireturn, 1) := by decide +kernel
theorem dX9_picture_146 : decode cX9_picture 146 = .ok (.iconst (-1), 1) := by decide +kernel
theorem dX9_picture_147 : decode cX9_picture 147 = .ok (.ireturn, 1) := by decide +kernel
theorem dX9_as_0 : decode cX9_as 0 = .ok (.aload_n 0, 1) := by decide +kernel
theorem dX9_as_1 : decode cX9_as 1 = .ok (.getfield 26, 3) := by decide +kernel
theorem dX9_as_4 : decode cX9_as 4 = .ok (.iload_n 1, 1) := by decide +kernel
theorem dX9_as_5 : decode cX9_as 5 = .ok (.invokevirtual 101, 3) := by decide +kernel
theorem dX9_as_8 : decode cX9_as 8 = .ok (.ifCond .eq 12, 3) := by decide +kernel
theorem dX9_as_11 : decode cX9_as 11 = .ok (.iload_n 2, 1) := by decide +kernel
theorem dX9_as_12 : decode cX9_as 12 = .ok (.iconst 0, 1) := by decide +kernel
theorem dX9_as_13 : decode cX9_as 13 = .ok (.iconst 5, 1) := by decide +kernel
theorem dX9_as_14 : decode cX9_as 14 = .ok (.invokestatic 69, 3) := by decide +kernel
theorem dX9_as_17 : decode cX9_as 17 = .ok (.ifCond .ne 5, 3) := by decide +kernel
theorem dX9_as_20 : decode cX9_as 20 = .ok (.iconst (-1), 1) := by decide +kernel
theorem dX9_as_21 : decode cX9_as 21 = .ok (.ireturn, 1) := by decide +kernel
theorem dX9_as_22 : decode cX9_as 22 = .ok (.aload_n 0, 1) := by decide +kernel
theorem dX9_as_23 : decode cX9_as 23 = .ok (.getfield 26, 3) := by decide +kernel
theorem dX9_as_26 : decode cX9_as 26 = .ok (.getfield 105, 3) := by decide +kernel
theorem dX9_as_29 : decode cX9_as 29 = .ok (.iload_n 1, 1) := by decide +kernel
theorem dX9_as_30 : decode cX9_as 30 = .ok (.iaload, 1) := by decide +kernel
theorem dX9_as_31 : decode cX9_as 31 = .ok (.iload_n 2, 1) := by decide +kernel
theorem dX9_as_32 : decode cX9_as 32 = .ok (.invokestatic 132, 3) := by decide +kernel
theorem dX9_as_35 : decode cX9_as 35 = .ok (.ifCond .eq 7, 3) := by decide +kernel
theorem dX9_as_38 : decode cX9_as 38 = .ok (.iload_n 1, 1) := by decide +kernel
theorem dX9_as_39 : decode cX9_as 39 = .ok (.goto 5, 3) := by decide +kernel
theorem dX9_as_42 : decode cX9_as 42 = .ok (.bipush (-12), 2) := by decide +kernel
theorem dX9_as_44 : decode cX9_as 44 = .ok (.ireturn, 1) := by decide +kernel
theorem dX9_brings_0 : decode cX9_brings 0 = .ok (.iload_n 1, 1) := by decide +kernel
theorem dX9_brings_1 : decode cX9_brings 1 = .ok (.invokestatic 136, 3) := by decide +kernel
theorem dX9_brings_4 : decode cX9_brings 4 = .ok (.ifCond .ne 5, 3) := by decide +kernel
theorem dX9_brings_7 : decode cX9_brings 7 = .ok (.iconst (-1), 1) := by decide +kernel
theorem dX9_brings_8 : decode cX9_brings 8 = .ok (.ireturn, 1) := by decide +kernel
theorem dX9_brings_9 : decode cX9_brings 9 = .ok (.aload_n 0, 1) := by decide +kernel
theorem dX9_brings_10 : decode cX9_brings 10 = .ok (.getfield 26, 3) := by decide +kernel
theorem dX9_brings_13 : decode cX9_brings 13 = .ok (.invokevirtual 139, 3) := by decide +kernel
theorem dX9_brings_16 : decode cX9_brings 16 = .ok (.ifCond .eq 6, 3) := by decide +kernel
theorem dX9_brings_19 : decode cX9_brings 19 = .ok (.bipush (-2), 2) := by decide +kernel
theorem dX9_brings_21 : decode cX9_brings 21 = .ok (.ireturn, 1) := by decide +kernel
theorem dX9_brings_22 : decode cX9_brings 22 = .ok (.aload_n 0, 1) := by decide +kernel
theorem dX9_brings_23 : decode cX9_brings 23 = .ok (.getfield 26, 3) := by decide +kernel
theorem dX9_brings_26 : decode cX9_brings 26 = .ok (.aload_n 0, 1) := by decide +kernel
theorem dX9_brings_27 : decode cX9_brings 27 = .ok (.getfield 26, 3) := by decide +kernel
theorem dX9_brings_30 : decode cX9_brings 30 = .ok (.getfield 143, 3) := by decide +kernel
theorem dX9_brings_33 : decode cX9_brings 33 = .ok (.aload_n 0, 1) := by decide +kernel
theorem dX9_brings_34 : decode cX9_brings 34 = .ok (.getfield 26, 3) := by decide +kernel
theorem dX9_brings_37 : decode cX9_brings 37 = .ok (.getfield 146, 3) := by decide +kernel
theorem dX9_brings_40 : decode cX9_brings 40 = .ok (.iload_n 1, 1) := by decide +kernel
theorem dX9_brings_41 : decode cX9_brings 41 = .ok (.invokevirtual 149, 3) := by decide +kernel
theorem dX9_brings_44 : decode cX9_brings 44 = .ok (.ireturn, 1) := by decide +kernel
theorem dX9_flex_0 : decode cX9_flex 0 = .ok (.iload_n 1, 1) := by decide +kernel
theorem dX9_flex_1 : decode cX9_flex 1 = .ok (.invokestatic 136, 3) := by decide +kernel
theorem dX9_flex_4 : decode cX9_flex 4 = .ok (.ifCond .eq 11, 3) := by decide +kernel
theorem dX9_flex_7 : decode cX9_flex 7 = .ok (.aload_n 0, 1) := by decide +kernel
theorem dX9_flex_8 : decode cX9_flex 8 = .ok (.iload_n 1, 1) := by decide +kernel
theorem dX9_flex_9 : decode cX9_flex 9 = .ok (.invokevirtual 153, 3) := by decide +kernel
theorem dX9_flex_12 : decode cX9_flex 12 = .ok (.goto 4, 3) := by decide +kernel
theorem dX9_flex_15 : decode cX9_flex 15 = .ok (.iconst (-1), 1) := by decide +kernel
theorem dX9_flex_16 : decode cX9_flex 16 = .ok (.ireturn, 1) := by decide +kernel
theorem dX9_turn_0 : decode cX9_turn 0 = .ok (.aload_n 0, 1) := by decide +kernel
theorem dX9_turn_1 : decode cX9_turn 1 = .ok (.iconst 2, 1) := by decide +kernel
theorem dX9_turn_2 : decode cX9_turn 2 = .ok (.invokevirtual 153, 3) := by decide +kernel
theorem dX9_turn_5 : decode cX9_turn 5 = .ok (.ireturn, 1) := by decide +kernel
theorem dX9_doMove_0 : decode cX9_doMove 0 = .ok (.aload_n 0, 1) := by decide +kernel
theorem dX9_doMove_1 : decode cX9_doMove 1 = .ok (.getfield 26, 3) := by decide +kernel
theorem dX9_doMove_4 : decode cX9_doMove 4 = .ok (.invokevirtual 139, 3) := by decide +kernel
theorem dX9_doMove_7 : decode cX9_doMove 7 = .ok (.ifCond .ne 14, 3) := by decide +kernel
theorem dX9_doMove_10 : decode cX9_doMove 10 = .ok (.aload_n 0, 1) := by decide +kernel
theorem dX9_doMove_11 : decode cX9_doMove 11 = .ok (.getfield 26, 3) := by decide +kernel
theorem dX9_doMove_14 : decode cX9_doMove 14 = .ok (.iload_n 1, 1) := by decide +kernel
theorem dX9_doMove_15 : decode cX9_doMove 15 = .ok (.invokevirtual 156, 3) := by decide +kernel
theorem dX9_doMove_18 : decode cX9_doMove 18 = .ok (.ifCond .ge 6, 3) := by decide +kernel
theorem dX9_doMove_21 : decode cX9_doMove 21 = .ok (.bipush (-2), 2) := by decide +kernel
theorem dX9_doMove_23 : decode cX9_doMove 23 = .ok (.ireturn, 1) := by decide +kernel
theorem dX9_doMove_24 : decode cX9_doMove 24 = .ok (.aload_n 0, 1) := by decide +kernel
theorem dX9_doMove_25 : decode cX9_doMove 25 = .ok (.getfield 33, 3) := by decide +kernel
theorem dX9_doMove_28 : decode cX9_doMove 28 = .ok (.aload_n 0, 1) := by decide +kernel
theorem dX9_doMove_29 : decode cX9_doMove 29 = .ok (.getfield 26, 3) := by decide +kernel
theorem dX9_doMove_32 : decode cX9_doMove 32 = .ok (.invokevirtual 159, 3) := by decide +kernel
theorem dX9_doMove_35 : decode cX9_doMove 35 = .ok (.aload_n 0, 1) := by decide +kernel
theorem dX9_doMove_36 : decode cX9_doMove 36 = .ok (.getfield 26, 3) := by decide +kernel
theorem dX9_doMove_39 : decode cX9_doMove 39 = .ok (.iload_n 1, 1) := by decide +kernel
theorem dX9_doMove_40 : decode cX9_doMove 40 = .ok (.invokevirtual 162, 3) := by decide +kernel
theorem dX9_doMove_43 : decode cX9_doMove 43 = .ok (.aload_n 0, 1) := by decide +kernel
theorem dX9_doMove_44 : decode cX9_doMove 44 = .ok (.getfield 26, 3) := by decide +kernel
theorem dX9_doMove_47 : decode cX9_doMove 47 = .ok (.getfield 143, 3) := by decide +kernel
theorem dX9_doMove_50 : decode cX9_doMove 50 = .ok (.ireturn, 1) := by decide +kernel
theorem dX9_refold_0 : decode cX9_refold 0 = .ok (.aload_n 0, 1) := by decide +kernel
theorem dX9_refold_1 : decode cX9_refold 1 = .ok (.getfield 26, 3) := by decide +kernel
theorem dX9_refold_4 : decode cX9_refold 4 = .ok (.iload_n 1, 1) := by decide +kernel
theorem dX9_refold_5 : decode cX9_refold 5 = .ok (.invokevirtual 101, 3) := by decide +kernel
theorem dX9_refold_8 : decode cX9_refold 8 = .ok (.ifCond .eq 19, 3) := by decide +kernel
theorem dX9_refold_11 : decode cX9_refold 11 = .ok (.aload_n 0, 1) := by decide +kernel
theorem dX9_refold_12 : decode cX9_refold 12 = .ok (.getfield 26, 3) := by decide +kernel
theorem dX9_refold_15 : decode cX9_refold 15 = .ok (.iload_n 2, 1) := by decide +kernel
theorem dX9_refold_16 : decode cX9_refold 16 = .ok (.invokevirtual 101, 3) := by decide +kernel
theorem dX9_refold_19 : decode cX9_refold 19 = .ok (.ifCond .eq 8, 3) := by decide +kernel
theorem dX9_refold_22 : decode cX9_refold 22 = .ok (.iload_n 1, 1) := by decide +kernel
theorem dX9_refold_23 : decode cX9_refold 23 = .ok (.iload_n 2, 1) := by decide +kernel
theorem dX9_refold_24 : decode cX9_refold 24 = .ok (.if_icmp .ne 5, 3) := by decide +kernel
theorem dX9_refold_27 : decode cX9_refold 27 = .ok (.iconst (-1), 1) := by decide +kernel
theorem dX9_refold_28 : decode cX9_refold 28 = .ok (.ireturn, 1) := by decide +kernel
theorem dX9_refold_29 : decode cX9_refold 29 = .ok (.aload_n 0, 1) := by decide +kernel
theorem dX9_refold_30 : decode cX9_refold 30 = .ok (.getfield 26, 3) := by decide +kernel
theorem dX9_refold_33 : decode cX9_refold 33 = .ok (.iload_n 1, 1) := by decide +kernel
theorem dX9_refold_34 : decode cX9_refold 34 = .ok (.iload_n 2, 1) := by decide +kernel
theorem dX9_refold_35 : decode cX9_refold 35 = .ok (.invokevirtual 166, 3) := by decide +kernel
theorem dX9_refold_38 : decode cX9_refold 38 = .ok (.ifCond .eq 15, 3) := by decide +kernel
theorem dX9_refold_41 : decode cX9_refold 41 = .ok (.aload_n 0, 1) := by decide +kernel
theorem dX9_refold_42 : decode cX9_refold 42 = .ok (.getfield 26, 3) := by decide +kernel
theorem dX9_refold_45 : decode cX9_refold 45 = .ok (.iload_n 1, 1) := by decide +kernel
theorem dX9_refold_46 : decode cX9_refold 46 = .ok (.iload_n 2, 1) := by decide +kernel
theorem dX9_refold_47 : decode cX9_refold 47 = .ok (.invokevirtual 169, 3) := by decide +kernel
theorem dX9_refold_50 : decode cX9_refold 50 = .ok (.ifCond .eq 6, 3) := by decide +kernel
theorem dX9_refold_53 : decode cX9_refold 53 = .ok (.bipush (-2), 2) := by decide +kernel
theorem dX9_refold_55 : decode cX9_refold 55 = .ok (.ireturn, 1) := by decide +kernel
theorem dX9_refold_56 : decode cX9_refold 56 = .ok (.aload_n 0, 1) := by decide +kernel
theorem dX9_refold_57 : decode cX9_refold 57 = .ok (.getfield 26, 3) := by decide +kernel
theorem dX9_refold_60 : decode cX9_refold 60 = .ok (.iload_n 1, 1) := by decide +kernel
theorem dX9_refold_61 : decode cX9_refold 61 = .ok (.iload_n 2, 1) := by decide +kernel
theorem dX9_refold_62 : decode cX9_refold 62 = .ok (.iconst 0, 1) := by decide +kernel
theorem dX9_refold_63 : decode cX9_refold 63 = .ok (.invokevirtual 149, 3) := by decide +kernel
theorem dX9_refold_66 : decode cX9_refold 66 = .ok (.istore_n 3, 1) := by decide +kernel
theorem dX9_refold_67 : decode cX9_refold 67 = .ok (.aload_n 0, 1) := by decide +kernel
theorem dX9_refold_68 : decode cX9_refold 68 = .ok (.getfield 26, 3) := by decide +kernel
theorem dX9_refold_71 : decode cX9_refold 71 = .ok (.iload_n 1, 1) := by decide +kernel
theorem dX9_refold_72 : decode cX9_refold 72 = .ok (.iload_n 2, 1) := by decide +kernel
theorem dX9_refold_73 : decode cX9_refold 73 = .ok (.iconst 1, 1) := by decide +kernel
theorem dX9_refold_74 : decode cX9_refold 74 = .ok (.invokevirtual 149, 3) := by decide +kernel
theorem dX9_refold_77 : decode cX9_refold 77 = .ok (.istore 4, 2) := by decide +kernel
theorem dX9_refold_79 : decode cX9_refold 79 = .ok (.iload_n 3, 1) := by decide +kernel
theorem dX9_refold_80 : decode cX9_refold 80 = .ok (.ifCond .lt 8, 3) := by decide +kernel
theorem dX9_refold_83 : decode cX9_refold 83 = .ok (.iload 4, 2) := by decide +kernel
theorem dX9_refold_85 : decode cX9_refold 85 = .ok (.ifCond .ge 6, 3) := by decide +kernel
theorem dX9_refold_88 : decode cX9_refold 88 = .ok (.bipush (-2), 2) := by decide +kernel
theorem dX9_refold_90 : decode cX9_refold 90 = .ok (.ireturn, 1) := by decide +kernel
theorem dX9_refold_91 : decode cX9_refold 91 = .ok (.aload_n 0, 1) := by decide +kernel
theorem dX9_refold_92 : decode cX9_refold 92 = .ok (.getfield 33, 3) := by decide +kernel
theorem dX9_refold_95 : decode cX9_refold 95 = .ok (.aload_n 0, 1) := by decide +kernel
theorem dX9_refold_96 : decode cX9_refold 96 = .ok (.getfield 26, 3) := by decide +kernel
theorem dX9_refold_99 : decode cX9_refold 99 = .ok (.invokevirtual 159, 3) := by decide +kernel
theorem dX9_refold_102 : decode cX9_refold 102 = .ok (.aload_n 0, 1) := by decide +kernel
theorem dX9_refold_103 : decode cX9_refold 103 = .ok (.getfield 26, 3) := by decide +kernel
theorem dX9_refold_106 : decode cX9_refold 106 = .ok (.iload_n 1, 1) := by decide +kernel
theorem dX9_refold_107 : decode cX9_refold 107 = .ok (.iload_n 2, 1) := by decide +kernel
theorem dX9_refold_108 : decode cX9_refold 108 = .ok (.invokevirtual 172, 3) := by decide +kernel
theorem dX9_refold_111 : decode cX9_refold 111 = .ok (.aload_n 0, 1) := by decide +kernel
theorem dX9_refold_112 : decode cX9_refold 112 = .ok (.getfield 26, 3) := by decide +kernel
theorem dX9_refold_115 : decode cX9_refold 115 = .ok (.iload_n 3, 1) := by decide +kernel
theorem dX9_refold_116 : decode cX9_refold 116 = .ok (.iload 4, 2) := by decide +kernel
theorem dX9_refold_118 : decode cX9_refold 118 = .ok (.invokevirtual 176, 3) := by decide +kernel
theorem dX9_refold_121 : decode cX9_refold 121 = .ok (.iload_n 3, 1) := by decide +kernel
theorem dX9_refold_122 : decode cX9_refold 122 = .ok (.iload 4, 2) := by decide +kernel
theorem dX9_refold_124 : decode cX9_refold 124 = .ok (.invokestatic 179, 3) := by decide +kernel
theorem dX9_refold_127 : decode cX9_refold 127 = .ok (.bipush 10, 2) := by decide +kernel
theorem dX9_refold_129 : decode cX9_refold 129 = .ok (.imul, 1) := by decide +kernel
theorem dX9_refold_130 : decode cX9_refold 130 = .ok (.iload_n 3, 1) := by decide +kernel
theorem dX9_refold_131 : decode cX9_refold 131 = .ok (.iload 4, 2) := by decide +kernel
theorem dX9_refold_133 : decode cX9_refold 133 = .ok (.invokestatic 185, 3) := by decide +kernel
theorem dX9_refold_136 : decode cX9_refold 136 = .ok (.iadd, 1) := by decide +kernel
theorem dX9_refold_137 : decode cX9_refold 137 = .ok (.ireturn, 1) := by decide +kernel
theorem dX9_mend_0 : decode cX9_mend 0 = .ok (.aload_n 0, 1) := by decide +kernel
theorem dX9_mend_1 : decode cX9_mend 1 = .ok (.getfield 26, 3) := by decide +kernel
theorem dX9_mend_4 : decode cX9_mend 4 = .ok (.iload_n 1, 1) := by decide +kernel
theorem dX9_mend_5 : decode cX9_mend 5 = .ok (.invokevirtual 101, 3) := by decide +kernel
theorem dX9_mend_8 : decode cX9_mend 8 = .ok (.ifCond .ne 5, 3) := by decide +kernel
theorem dX9_mend_11 : decode cX9_mend 11 = .ok (.iconst (-1), 1) := by decide +kernel
theorem dX9_mend_12 : decode cX9_mend 12 = .ok (.ireturn, 1) := by decide +kernel
theorem dX9_mend_13 : decode cX9_mend 13 = .ok (.aload_n 0, 1) := by decide +kernel
theorem dX9_mend_14 : decode cX9_mend 14 = .ok (.getfield 26, 3) := by decide +kernel
theorem dX9_mend_17 : decode cX9_mend 17 = .ok (.getfield 115, 3) := by decide +kernel
theorem dX9_mend_20 : decode cX9_mend 20 = .ok (.iload_n 1, 1) := by decide +kernel
theorem dX9_mend_21 : decode cX9_mend 21 = .ok (.iaload, 1) := by decide +kernel
theorem dX9_mend_22 : decode cX9_mend 22 = .ok (.ifCond .ne 6, 3) := by decide +kernel
theorem dX9_mend_25 : decode cX9_mend 25 = .ok (.bipush (-2), 2) := by decide +kernel
theorem dX9_mend_27 : decode cX9_mend 27 = .ok (.ireturn, 1) := by decide +kernel
theorem dX9_mend_28 : decode cX9_mend 28 = .ok (.aload_n 0, 1) := by decide +kernel
theorem dX9_mend_29 : decode cX9_mend 29 = .ok (.getfield 33, 3) := by decide +kernel
theorem dX9_mend_32 : decode cX9_mend 32 = .ok (.aload_n 0, 1) := by decide +kernel
theorem dX9_mend_33 : decode cX9_mend 33 = .ok (.getfield 26, 3) := by decide +kernel
theorem dX9_mend_36 : decode cX9_mend 36 = .ok (.invokevirtual 159, 3) := by decide +kernel
theorem dX9_mend_39 : decode cX9_mend 39 = .ok (.aload_n 0, 1) := by decide +kernel
theorem dX9_mend_40 : decode cX9_mend 40 = .ok (.getfield 26, 3) := by decide +kernel
theorem dX9_mend_43 : decode cX9_mend 43 = .ok (.getfield 115, 3) := by decide +kernel
theorem dX9_mend_46 : decode cX9_mend 46 = .ok (.iload_n 1, 1) := by decide +kernel
theorem dX9_mend_47 : decode cX9_mend 47 = .ok (.iconst 0, 1) := by decide +kernel
theorem dX9_mend_48 : decode cX9_mend 48 = .ok (.aload_n 0, 1) := by decide +kernel
theorem dX9_mend_49 : decode cX9_mend 49 = .ok (.getfield 26, 3) := by decide +kernel
theorem dX9_mend_52 : decode cX9_mend 52 = .ok (.getfield 115, 3) := by decide +kernel
theorem dX9_mend_55 : decode cX9_mend 55 = .ok (.iload_n 1, 1) := by decide +kernel
theorem dX9_mend_56 : decode cX9_mend 56 = .ok (.iaload, 1) := by decide +kernel
theorem dX9_mend_57 : decode cX9_mend 57 = .ok (.iconst 2, 1) := by decide +kernel
theorem dX9_mend_58 : decode cX9_mend 58 = .ok (.isub, 1) := by decide +kernel
theorem dX9_mend_59 : decode cX9_mend 59 = .ok (.invokestatic 185, 3) := by decide +kernel
theorem dX9_mend_62 : decode cX9_mend 62 = .ok (.iastore, 1) := by decide +kernel
theorem dX9_mend_63 : decode cX9_mend 63 = .ok (.aload_n 0, 1) := by decide +kernel
theorem dX9_mend_64 : decode cX9_mend 64 = .ok (.getfield 26, 3) := by decide +kernel
theorem dX9_mend_67 : decode cX9_mend 67 = .ok (.getfield 115, 3) := by decide +kernel
theorem dX9_mend_70 : decode cX9_mend 70 = .ok (.iload_n 1, 1) := by decide +kernel
theorem dX9_mend_71 : decode cX9_mend 71 = .ok (.iaload, 1) := by decide +kernel
theorem dX9_mend_72 : decode cX9_mend 72 = .ok (.ireturn, 1) := by decide +kernel
theorem dX9_undo_0 : decode cX9_undo 0 = .ok (.aload_n 0, 1) := by decide +kernel
theorem dX9_undo_1 : decode cX9_undo 1 = .ok (.getfield 33, 3) := by decide +kernel
theorem dX9_undo_4 : decode cX9_undo 4 = .ok (.aload_n 0, 1) := by decide +kernel
theorem dX9_undo_5 : decode cX9_undo 5 = .ok (.getfield 26, 3) := by decide +kernel
theorem dX9_undo_8 : decode cX9_undo 8 = .ok (.invokevirtual 188, 3) := by decide +kernel
theorem dX9_undo_11 : decode cX9_undo 11 = .ok (.ifCond .eq 13, 3) := by decide +kernel
theorem dX9_undo_14 : decode cX9_undo 14 = .ok (.aload_n 0, 1) := by decide +kernel
theorem dX9_undo_15 : decode cX9_undo 15 = .ok (.getfield 33, 3) := by decide +kernel
theorem dX9_undo_18 : decode cX9_undo 18 = .ok (.getfield 192, 3) := by decide +kernel
theorem dX9_undo_21 : decode cX9_undo 21 = .ok (.goto 5, 3) := by decide +kernel
theorem dX9_undo_24 : decode cX9_undo 24 = .ok (.bipush (-4), 2) := by decide +kernel
theorem dX9_undo_26 : decode cX9_undo 26 = .ok (.ireturn, 1) := by decide +kernel
theorem dX9_image_0 : decode cX9_image 0 = .ok (.iload_n 1, 1) := by decide +kernel
theorem dX9_image_1 : decode cX9_image 1 = .ok (.iconst 0, 1) := by decide +kernel
theorem dX9_image_2 : decode cX9_image 2 = .ok (.iconst 1, 1) := by decide +kernel
theorem dX9_image_3 : decode cX9_image 3 = .ok (.invokestatic 69, 3) := by decide +kernel
theorem dX9_image_6 : decode cX9_image 6 = .ok (.ifCond .ne 5, 3) := by decide +kernel
theorem dX9_image_9 : decode cX9_image 9 = .ok (.iconst (-1), 1) := by decide +kernel
theorem dX9_image_10 : decode cX9_image 10 = .ok (.ireturn, 1) := by decide +kernel
theorem dX9_image_11 : decode cX9_image 11 = .ok (.aload_n 0, 1) := by decide +kernel
theorem dX9_image_12 : decode cX9_image 12 = .ok (.getfield 26, 3) := by decide +kernel
theorem dX9_image_15 : decode cX9_image 15 = .ok (.invokevirtual 139, 3) := by decide +kernel
theorem dX9_image_18 : decode cX9_image 18 = .ok (.ifCond .eq 6, 3) := by decide +kernel
theorem dX9_image_21 : decode cX9_image 21 = .ok (.bipush (-2), 2) := by decide +kernel
theorem dX9_image_23 : decode cX9_image 23 = .ok (.ireturn, 1) := by decide +kernel
theorem dX9_image_24 : decode cX9_image 24 = .ok (.aload_n 0, 1) := by decide +kernel
theorem dX9_image_25 : decode cX9_image 25 = .ok (.getfield 37, 3) := by decide +kernel
theorem dX9_image_28 : decode cX9_image 28 = .ok (.iload_n 1, 1) := by decide +kernel
theorem dX9_image_29 : decode cX9_image 29 = .ok (.aaload, 1) := by decide +kernel
theorem dX9_image_30 : decode cX9_image 30 = .ok (.aload_n 0, 1) := by decide +kernel
theorem dX9_image_31 : decode cX9_image 31 = .ok (.getfield 26, 3) := by decide +kernel
theorem dX9_image_34 : decode cX9_image 34 = .ok (.invokevirtual 91, 3) := by decide +kernel
theorem dX9_image_37 : decode cX9_image 37 = .ok (.aload_n 0, 1) := by decide +kernel
theorem dX9_image_38 : decode cX9_image 38 = .ok (.getfield 26, 3) := by decide +kernel
theorem dX9_image_41 : decode cX9_image 41 = .ok (.getfield 143, 3) := by decide +kernel
theorem dX9_image_44 : decode cX9_image 44 = .ok (.ireturn, 1) := by decide +kernel
theorem dX9_restore_0 : decode cX9_restore 0 = .ok (.iload_n 1, 1) := by decide +kernel
theorem dX9_restore_1 : decode cX9_restore 1 = .ok (.iconst 0, 1) := by decide +kernel
theorem dX9_restore_2 : decode cX9_restore 2 = .ok (.iconst 1, 1) := by decide +kernel
theorem dX9_restore_3 : decode cX9_restore 3 = .ok (.invokestatic 69, 3) := by decide +kernel
theorem dX9_restore_6 : decode cX9_restore 6 = .ok (.ifCond .ne 5, 3) := by decide +kernel
theorem dX9_restore_9 : decode cX9_restore 9 = .ok (.iconst (-1), 1) := by decide +kernel
theorem dX9_restore_10 : decode cX9_restore 10 = .ok (.ireturn, 1) := by decide +kernel
theorem dX9_restore_11 : decode cX9_restore 11 = .ok (.aload_n 0, 1) := by decide +kernel
theorem dX9_restore_12 : decode cX9_restore 12 = .ok (.getfield 37, 3) := by decide +kernel
theorem dX9_restore_15 : decode cX9_restore 15 = .ok (.iload_n 1, 1) := by decide +kernel
theorem dX9_restore_16 : decode cX9_restore 16 = .ok (.aaload, 1) := by decide +kernel
theorem dX9_restore_17 : decode cX9_restore 17 = .ok (.invokevirtual 139, 3) := by decide +kernel
theorem dX9_restore_20 : decode cX9_restore 20 = .ok (.ifCond .eq 6, 3) := by decide +kernel
theorem dX9_restore_23 : decode cX9_restore 23 = .ok (.bipush (-2), 2) := by decide +kernel
theorem dX9_restore_25 : decode cX9_restore 25 = .ok (.ireturn, 1) := by decide +kernel
theorem dX9_restore_26 : decode cX9_restore 26 = .ok (.aload_n 0, 1) := by decide +kernel
theorem dX9_restore_27 : decode cX9_restore 27 = .ok (.getfield 26, 3) := by decide +kernel
theorem dX9_restore_30 : decode cX9_restore 30 = .ok (.aload_n 0, 1) := by decide +kernel
theorem dX9_restore_31 : decode cX9_restore 31 = .ok (.getfield 37, 3) := by decide +kernel
theorem dX9_restore_34 : decode cX9_restore 34 = .ok (.iload_n 1, 1) := by decide +kernel
theorem dX9_restore_35 : decode cX9_restore 35 = .ok (.aaload, 1) := by decide +kernel
theorem dX9_restore_36 : decode cX9_restore 36 = .ok (.invokevirtual 91, 3) := by decide +kernel
theorem dX9_restore_39 : decode cX9_restore 39 = .ok (.aload_n 0, 1) := by decide +kernel
theorem dX9_restore_40 : decode cX9_restore 40 = .ok (.getfield 33, 3) := by decide +kernel
theorem dX9_restore_43 : decode cX9_restore 43 = .ok (.invokevirtual 95, 3) := by decide +kernel
theorem dX9_restore_46 : decode cX9_restore 46 = .ok (.aload_n 0, 1) := by decide +kernel
theorem dX9_restore_47 : decode cX9_restore 47 = .ok (.getfield 26, 3) := by decide +kernel
theorem dX9_restore_50 : decode cX9_restore 50 = .ok (.getfield 143, 3) := by decide +kernel
theorem dX9_restore_53 : decode cX9_restore 53 = .ok (.ireturn, 1) := by decide +kernel
theorem dX9_reach_0 : decode cX9_reach 0 = .ok (.aload_n 0, 1) := by decide +kernel
theorem dX9_reach_1 : decode cX9_reach 1 = .ok (.getfield 26, 3) := by decide +kernel
theorem dX9_reach_4 : decode cX9_reach 4 = .ok (.invokevirtual 139, 3) := by decide +kernel
theorem dX9_reach_7 : decode cX9_reach 7 = .ok (.ifCond .eq 6, 3) := by decide +kernel
theorem dX9_reach_10 : decode cX9_reach 10 = .ok (.bipush (-2), 2) := by decide +kernel
theorem dX9_reach_12 : decode cX9_reach 12 = .ok (.ireturn, 1) := by decide +kernel
theorem dX9_reach_13 : decode cX9_reach 13 = .ok (.aload_n 0, 1) := by decide +kernel
theorem dX9_reach_14 : decode cX9_reach 14 = .ok (.getfield 50, 3) := by decide +kernel
theorem dX9_reach_17 : decode cX9_reach 17 = .ok (.aload_n 0, 1) := by decide +kernel
theorem dX9_reach_18 : decode cX9_reach 18 = .ok (.getfield 26, 3) := by decide +kernel
theorem dX9_reach_21 : decode cX9_reach 21 = .ok (.invokevirtual 195, 3) := by decide +kernel
theorem dX9_reach_24 : decode cX9_reach 24 = .ok (.aload_n 0, 1) := by decide +kernel
theorem dX9_reach_25 : decode cX9_reach 25 = .ok (.getfield 50, 3) := by decide +kernel
theorem dX9_reach_28 : decode cX9_reach 28 = .ok (.invokevirtual 198, 3) := by decide +kernel
theorem dX9_reach_31 : decode cX9_reach 31 = .ok (.ireturn, 1) := by decide +kernel
theorem dX9_way_0 : decode cX9_way 0 = .ok (.aload_n 0, 1) := by decide +kernel
theorem dX9_way_1 : decode cX9_way 1 = .ok (.getfield 26, 3) := by decide +kernel
theorem dX9_way_4 : decode cX9_way 4 = .ok (.iload_n 1, 1) := by decide +kernel
theorem dX9_way_5 : decode cX9_way 5 = .ok (.invokevirtual 101, 3) := by decide +kernel
theorem dX9_way_8 : decode cX9_way 8 = .ok (.ifCond .eq 9, 3) := by decide +kernel
theorem dX9_way_11 : decode cX9_way 11 = .ok (.iload_n 2, 1) := by decide +kernel
theorem dX9_way_12 : decode cX9_way 12 = .ok (.bipush (-2), 2) := by decide +kernel
theorem dX9_way_14 : decode cX9_way 14 = .ok (.if_icmp .ge 5, 3) := by decide +kernel
theorem dX9_way_17 : decode cX9_way 17 = .ok (.iconst (-1), 1) := by decide +kernel
theorem dX9_way_18 : decode cX9_way 18 = .ok (.ireturn, 1) := by decide +kernel
theorem dX9_way_19 : decode cX9_way 19 = .ok (.aload_n 0, 1) := by decide +kernel
theorem dX9_way_20 : decode cX9_way 20 = .ok (.getfield 50, 3) := by decide +kernel
theorem dX9_way_23 : decode cX9_way 23 = .ok (.aload_n 0, 1) := by decide +kernel
theorem dX9_way_24 : decode cX9_way 24 = .ok (.getfield 26, 3) := by decide +kernel
theorem dX9_way_27 : decode cX9_way 27 = .ok (.invokevirtual 195, 3) := by decide +kernel
theorem dX9_way_30 : decode cX9_way 30 = .ok (.aload_n 0, 1) := by decide +kernel
theorem dX9_way_31 : decode cX9_way 31 = .ok (.getfield 50, 3) := by decide +kernel
theorem dX9_way_34 : decode cX9_way 34 = .ok (.aload_n 0, 1) := by decide +kernel
theorem dX9_way_35 : decode cX9_way 35 = .ok (.getfield 26, 3) := by decide +kernel
theorem dX9_way_38 : decode cX9_way 38 = .ok (.iload_n 1, 1) := by decide +kernel
theorem dX9_way_39 : decode cX9_way 39 = .ok (.invokevirtual 202, 3) := by decide +kernel
theorem dX9_way_42 : decode cX9_way 42 = .ok (.aload_n 0, 1) := by decide +kernel
theorem dX9_way_43 : decode cX9_way 43 = .ok (.getfield 50, 3) := by decide +kernel
theorem dX9_way_46 : decode cX9_way 46 = .ok (.invokevirtual 206, 3) := by decide +kernel
theorem dX9_way_49 : decode cX9_way 49 = .ok (.ifCond .ne 6, 3) := by decide +kernel
theorem dX9_way_52 : decode cX9_way 52 = .ok (.bipush (-4), 2) := by decide +kernel
theorem dX9_way_54 : decode cX9_way 54 = .ok (.ireturn, 1) := by decide +kernel
theorem dX9_way_55 : decode cX9_way 55 = .ok (.iload_n 2, 1) := by decide +kernel
theorem dX9_way_56 : decode cX9_way 56 = .ok (.bipush (-2), 2) := by decide +kernel
theorem dX9_way_58 : decode cX9_way 58 = .ok (.if_icmp .ne 11, 3) := by decide +kernel
theorem dX9_way_61 : decode cX9_way 61 = .ok (.aload_n 0, 1) := by decide +kernel
theorem dX9_way_62 : decode cX9_way 62 = .ok (.getfield 50, 3) := by decide +kernel
theorem dX9_way_65 : decode cX9_way 65 = .ok (.invokevirtual 209, 3) := by decide +kernel
theorem dX9_way_68 : decode cX9_way 68 = .ok (.ireturn, 1) := by decide +kernel
theorem dX9_way_69 : decode cX9_way 69 = .ok (.iload_n 2, 1) := by decide +kernel
theorem dX9_way_70 : decode cX9_way 70 = .ok (.iconst (-1), 1) := by decide +kernel
theorem dX9_way_71 : decode cX9_way 71 = .ok (.if_icmp .ne 13, 3) := by decide +kernel
theorem dX9_way_74 : decode cX9_way 74 = .ok (.aload_n 0, 1) := by decide +kernel
theorem dX9_way_75 : decode cX9_way 75 = .ok (.getfield 50, 3) := by decide +kernel
theorem dX9_way_78 : decode cX9_way 78 = .ok (.invokevirtual 212, 3) := by decide +kernel
theorem dX9_way_81 : decode cX9_way 81 = .ok (.goto 15, 3) := by decide +kernel
theorem dX9_way_84 : decode cX9_way 84 = .ok (.aload_n 0, 1) := by decide +kernel
theorem dX9_way_85 : decode cX9_way 85 = .ok (.getfield 50, 3) := by decide +kernel
theorem dX9_way_88 : decode cX9_way 88 = .ok (.aload_n 0, 1) := by decide +kernel
theorem dX9_way_89 : decode cX9_way 89 = .ok (.getfield 26, 3) := by decide +kernel
theorem dX9_way_92 : decode cX9_way 92 = .ok (.iload_n 2, 1) := by decide +kernel
theorem dX9_way_93 : decode cX9_way 93 = .ok (.invokevirtual 215, 3) := by decide +kernel
theorem dX9_way_96 : decode cX9_way 96 = .ok (.ireturn, 1) := by decide +kernel
theorem dX9_tour_0 : decode cX9_tour 0 = .ok (.aload_n 0, 1) := by decide +kernel
theorem dX9_tour_1 : decode cX9_tour 1 = .ok (.getfield 26, 3) := by decide +kernel
theorem dX9_tour_4 : decode cX9_tour 4 = .ok (.invokevirtual 139, 3) := by decide +kernel
theorem dX9_tour_7 : decode cX9_tour 7 = .ok (.ifCond .eq 6, 3) := by decide +kernel
theorem dX9_tour_10 : decode cX9_tour 10 = .ok (.bipush (-2), 2) := by decide +kernel
theorem dX9_tour_12 : decode cX9_tour 12 = .ok (.ireturn, 1) := by decide +kernel
theorem dX9_tour_13 : decode cX9_tour 13 = .ok (.aload_n 0, 1) := by decide +kernel
theorem dX9_tour_14 : decode cX9_tour 14 = .ok (.getfield 50, 3) := by decide +kernel
theorem dX9_tour_17 : decode cX9_tour 17 = .ok (.aload_n 0, 1) := by decide +kernel
theorem dX9_tour_18 : decode cX9_tour 18 = .ok (.getfield 26, 3) := by decide +kernel
theorem dX9_tour_21 : decode cX9_tour 21 = .ok (.invokevirtual 195, 3) := by decide +kernel
theorem dX9_tour_24 : decode cX9_tour 24 = .ok (.aload_n 0, 1) := by decide +kernel
theorem dX9_tour_25 : decode cX9_tour 25 = .ok (.getfield 50, 3) := by decide +kernel
theorem dX9_tour_28 : decode cX9_tour 28 = .ok (.aload_n 0, 1) := by decide +kernel
theorem dX9_tour_29 : decode cX9_tour 29 = .ok (.getfield 50, 3) := by decide +kernel
theorem dX9_tour_32 : decode cX9_tour 32 = .ok (.invokevirtual 198, 3) := by decide +kernel
theorem dX9_tour_35 : decode cX9_tour 35 = .ok (.invokevirtual 219, 3) := by decide +kernel
theorem dX9_tour_38 : decode cX9_tour 38 = .ok (.ireturn, 1) := by decide +kernel
theorem dX9_round_0 : decode cX9_round 0 = .ok (.iload_n 1, 1) := by decide +kernel
theorem dX9_round_1 : decode cX9_round 1 = .ok (.iconst 0, 1) := by decide +kernel
theorem dX9_round_2 : decode cX9_round 2 = .ok (.iconst 1, 1) := by decide +kernel
theorem dX9_round_3 : decode cX9_round 3 = .ok (.invokestatic 69, 3) := by decide +kernel
theorem dX9_round_6 : decode cX9_round 6 = .ok (.ifCond .ne 5, 3) := by decide +kernel
theorem dX9_round_9 : decode cX9_round 9 = .ok (.iconst (-1), 1) := by decide +kernel
theorem dX9_round_10 : decode cX9_round 10 = .ok (.ireturn, 1) := by decide +kernel
theorem dX9_round_11 : decode cX9_round 11 = .ok (.aload_n 0, 1) := by decide +kernel
theorem dX9_round_12 : decode cX9_round 12 = .ok (.getfield 26, 3) := by decide +kernel
theorem dX9_round_15 : decode cX9_round 15 = .ok (.invokevirtual 139, 3) := by decide +kernel
theorem dX9_round_18 : decode cX9_round 18 = .ok (.ifCond .eq 6, 3) := by decide +kernel
theorem dX9_round_21 : decode cX9_round 21 = .ok (.bipush (-2), 2) := by decide +kernel
theorem dX9_round_23 : decode cX9_round 23 = .ok (.ireturn, 1) := by decide +kernel
theorem dX9_round_24 : decode cX9_round 24 = .ok (.aload_n 0, 1) := by decide +kernel
theorem dX9_round_25 : decode cX9_round 25 = .ok (.getfield 50, 3) := by decide +kernel
theorem dX9_round_28 : decode cX9_round 28 = .ok (.aload_n 0, 1) := by decide +kernel
theorem dX9_round_29 : decode cX9_round 29 = .ok (.getfield 26, 3) := by decide +kernel
theorem dX9_round_32 : decode cX9_round 32 = .ok (.invokevirtual 195, 3) := by decide +kernel
theorem dX9_round_35 : decode cX9_round 35 = .ok (.iload_n 1, 1) := by decide +kernel
theorem dX9_round_36 : decode cX9_round 36 = .ok (.ifCond .ne 13, 3) := by decide +kernel
theorem dX9_round_39 : decode cX9_round 39 = .ok (.aload_n 0, 1) := by decide +kernel
theorem dX9_round_40 : decode cX9_round 40 = .ok (.getfield 50, 3) := by decide +kernel
theorem dX9_round_43 : decode cX9_round 43 = .ok (.invokevirtual 222, 3) := by decide +kernel
theorem dX9_round_46 : decode cX9_round 46 = .ok (.goto 10, 3) := by decide +kernel
theorem dX9_round_49 : decode cX9_round 49 = .ok (.aload_n 0, 1) := by decide +kernel
theorem dX9_round_50 : decode cX9_round 50 = .ok (.getfield 50, 3) := by decide +kernel
theorem dX9_round_53 : decode cX9_round 53 = .ok (.invokevirtual 225, 3) := by decide +kernel
theorem dX9_round_56 : decode cX9_round 56 = .ok (.ireturn, 1) := by decide +kernel
theorem dX9_hand_0 : decode cX9_hand 0 = .ok (.aload_n 0, 1) := by decide +kernel
theorem dX9_hand_1 : decode cX9_hand 1 = .ok (.getfield 26, 3) := by decide +kernel
theorem dX9_hand_4 : decode cX9_hand 4 = .ok (.iload_n 1, 1) := by decide +kernel
theorem dX9_hand_5 : decode cX9_hand 5 = .ok (.invokevirtual 101, 3) := by decide +kernel
theorem dX9_hand_8 : decode cX9_hand 8 = .ok (.ifCond .eq 33, 3) := by decide +kernel
theorem dX9_hand_11 : decode cX9_hand 11 = .ok (.iload_n 2, 1) := by decide +kernel
theorem dX9_hand_12 : decode cX9_hand 12 = .ok (.iconst 0, 1) := by decide +kernel
theorem dX9_hand_13 : decode cX9_hand 13 = .ok (.bipush 6, 2) := by decide +kernel
theorem dX9_hand_15 : decode cX9_hand 15 = .ok (.invokestatic 69, 3) := by decide +kernel
theorem dX9_hand_18 : decode cX9_hand 18 = .ok (.ifCond .eq 23, 3) := by decide +kernel
theorem dX9_hand_21 : decode cX9_hand 21 = .ok (.iload_n 3, 1) := by decide +kernel
theorem dX9_hand_22 : decode cX9_hand 22 = .ok (.iconst 0, 1) := by decide +kernel
theorem dX9_hand_23 : decode cX9_hand 23 = .ok (.bipush 10, 2) := by decide +kernel
theorem dX9_hand_25 : decode cX9_hand 25 = .ok (.invokestatic 69, 3) := by decide +kernel
theorem dX9_hand_28 : decode cX9_hand 28 = .ok (.ifCond .eq 13, 3) := by decide +kernel
theorem dX9_hand_31 : decode cX9_hand 31 = .ok (.iload 4, 2) := by decide +kernel
theorem dX9_hand_33 : decode cX9_hand 33 = .ok (.iconst 0, 1) := by decide +kernel
theorem dX9_hand_34 : decode cX9_hand 34 = .ok (.iconst 1, 1) := by decide +kernel
theorem dX9_hand_35 : decode cX9_hand 35 = .ok (.invokestatic 69, 3) := by decide +kernel
theorem dX9_hand_38 : decode cX9_hand 38 = .ok (.ifCond .ne 5, 3) := by decide +kernel
theorem dX9_hand_41 : decode cX9_hand 41 = .ok (.iconst (-1), 1) := by decide +kernel
theorem dX9_hand_42 : decode cX9_hand 42 = .ok (.ireturn, 1) := by decide +kernel
theorem dX9_hand_43 : decode cX9_hand 43 = .ok (.aload_n 0, 1) := by decide +kernel
theorem dX9_hand_44 : decode cX9_hand 44 = .ok (.getfield 57, 3) := by decide +kernel
theorem dX9_hand_47 : decode cX9_hand 47 = .ok (.aload_n 0, 1) := by decide +kernel
theorem dX9_hand_48 : decode cX9_hand 48 = .ok (.getfield 26, 3) := by decide +kernel
theorem dX9_hand_51 : decode cX9_hand 51 = .ok (.iload_n 2, 1) := by decide +kernel
theorem dX9_hand_52 : decode cX9_hand 52 = .ok (.iload_n 1, 1) := by decide +kernel
theorem dX9_hand_53 : decode cX9_hand 53 = .ok (.iload_n 3, 1) := by decide +kernel
theorem dX9_hand_54 : decode cX9_hand 54 = .ok (.invokevirtual 228, 3) := by decide +kernel
theorem dX9_hand_57 : decode cX9_hand 57 = .ok (.istore 5, 2) := by decide +kernel
theorem dX9_hand_59 : decode cX9_hand 59 = .ok (.iconst 1, 1) := by decide +kernel
theorem dX9_hand_60 : decode cX9_hand 60 = .ok (.istore 6, 2) := by decide +kernel
theorem dX9_hand_62 : decode cX9_hand 62 = .ok (.iconst 0, 1) := by decide +kernel
theorem dX9_hand_63 : decode cX9_hand 63 = .ok (.istore 7, 2) := by decide +kernel
theorem dX9_hand_65 : decode cX9_hand 65 = .ok (.iload 7, 2) := by decide +kernel
theorem dX9_hand_67 : decode cX9_hand 67 = .ok (.iload_n 2, 1) := by decide +kernel
theorem dX9_hand_68 : decode cX9_hand 68 = .ok (.if_icmp .ge 16, 3) := by decide +kernel
theorem dX9_hand_71 : decode cX9_hand 71 = .ok (.iload 6, 2) := by decide +kernel
theorem dX9_hand_73 : decode cX9_hand 73 = .ok (.bipush 10, 2) := by decide +kernel
theorem dX9_hand_75 : decode cX9_hand 75 = .ok (.imul, 1) := by decide +kernel
theorem dX9_hand_76 : decode cX9_hand 76 = .ok (.istore 6, 2) := by decide +kernel
theorem dX9_hand_78 : decode cX9_hand 78 = .ok (.iinc 7 1, 3) := by decide +kernel
theorem dX9_hand_81 : decode cX9_hand 81 = .ok (.goto (-16), 3) := by decide +kernel
theorem dX9_hand_84 : decode cX9_hand 84 = .ok (.iload 5, 2) := by decide +kernel
theorem dX9_hand_86 : decode cX9_hand 86 = .ok (.iload 6, 2) := by decide +kernel
theorem dX9_hand_88 : decode cX9_hand 88 = .ok (.invokestatic 232, 3) := by decide +kernel
theorem dX9_hand_91 : decode cX9_hand 91 = .ok (.istore 7, 2) := by decide +kernel
theorem dX9_hand_93 : decode cX9_hand 93 = .ok (.iload 7, 2) := by decide +kernel
theorem dX9_hand_95 : decode cX9_hand 95 = .ok (.iconst 1, 1) := by decide +kernel
theorem dX9_hand_96 : decode cX9_hand 96 = .ok (.if_icmp .ge 5, 3) := by decide +kernel
theorem dX9_hand_99 : decode cX9_hand 99 = .ok (.iconst (-1), 1) := by decide +kernel
theorem dX9_hand_100 : decode cX9_hand 100 = .ok (.ireturn, 1) := by decide +kernel
theorem dX9_hand_101 : decode cX9_hand 101 = .ok (.iload 4, 2) := by decide +kernel
theorem dX9_hand_103 : decode cX9_hand 103 = .ok (.ifCond .ne 8, 3) := by decide +kernel
theorem dX9_hand_106 : decode cX9_hand 106 = .ok (.iload 5, 2) := by decide +kernel
theorem dX9_hand_108 : decode cX9_hand 108 = .ok (.goto 5, 3) := by decide +kernel
theorem dX9_hand_111 : decode cX9_hand 111 = .ok (.iload 6, 2) := by decide +kernel
theorem dX9_hand_113 : decode cX9_hand 113 = .ok (.iload 7, 2) := by decide +kernel
theorem dX9_hand_115 : decode cX9_hand 115 = .ok (.idiv, 1) := by decide +kernel
theorem dX9_hand_116 : decode cX9_hand 116 = .ok (.ireturn, 1) := by decide +kernel
theorem dX9_duel_0 : decode cX9_duel 0 = .ok (.iload_n 1, 1) := by decide +kernel
theorem dX9_duel_1 : decode cX9_duel 1 = .ok (.iconst 0, 1) := by decide +kernel
theorem dX9_duel_2 : decode cX9_duel 2 = .ok (.bipush 6, 2) := by decide +kernel
theorem dX9_duel_4 : decode cX9_duel 4 = .ok (.invokestatic 69, 3) := by decide +kernel
theorem dX9_duel_7 : decode cX9_duel 7 = .ok (.ifCond .ne 5, 3) := by decide +kernel
theorem dX9_duel_10 : decode cX9_duel 10 = .ok (.iconst (-1), 1) := by decide +kernel
theorem dX9_duel_11 : decode cX9_duel 11 = .ok (.ireturn, 1) := by decide +kernel
theorem dX9_duel_12 : decode cX9_duel 12 = .ok (.aload_n 0, 1) := by decide +kernel
theorem dX9_duel_13 : decode cX9_duel 13 = .ok (.getfield 26, 3) := by decide +kernel
theorem dX9_duel_16 : decode cX9_duel 16 = .ok (.invokevirtual 139, 3) := by decide +kernel
theorem dX9_duel_19 : decode cX9_duel 19 = .ok (.ifCond .eq 8, 3) := by decide +kernel
theorem dX9_duel_22 : decode cX9_duel 22 = .ok (.bipush (-2), 2) := by decide +kernel
theorem dX9_duel_24 : decode cX9_duel 24 = .ok (.goto 18, 3) := by decide +kernel
theorem dX9_duel_27 : decode cX9_duel 27 = .ok (.bipush 100, 2) := by decide +kernel
theorem dX9_duel_29 : decode cX9_duel 29 = .ok (.aload_n 0, 1) := by decide +kernel
theorem dX9_duel_30 : decode cX9_duel 30 = .ok (.getfield 57, 3) := by decide +kernel
theorem dX9_duel_33 : decode cX9_duel 33 = .ok (.aload_n 0, 1) := by decide +kernel
theorem dX9_duel_34 : decode cX9_duel 34 = .ok (.getfield 26, 3) := by decide +kernel
theorem dX9_duel_37 : decode cX9_duel 37 = .ok (.iload_n 1, 1) := by decide +kernel
theorem dX9_duel_38 : decode cX9_duel 38 = .ok (.invokevirtual 235, 3) := by decide +kernel
theorem dX9_duel_41 : decode cX9_duel 41 = .ok (.iadd, 1) := by decide +kernel
theorem dX9_duel_42 : decode cX9_duel 42 = .ok (.ireturn, 1) := by decide +kernel
theorem dX9_decades_0 : decode cX9_decades 0 = .ok (.iload_n 1, 1) := by decide +kernel
theorem dX9_decades_1 : decode cX9_decades 1 = .ok (.iconst 0, 1) := by decide +kernel
theorem dX9_decades_2 : decode cX9_decades 2 = .ok (.bipush 60, 2) := by decide +kernel
theorem dX9_decades_4 : decode cX9_decades 4 = .ok (.invokestatic 69, 3) := by decide +kernel
theorem dX9_decades_7 : decode cX9_decades 7 = .ok (.ifCond .eq 22, 3) := by decide +kernel
theorem dX9_decades_10 : decode cX9_decades 10 = .ok (.iload_n 2, 1) := by decide +kernel
theorem dX9_decades_11 : decode cX9_decades 11 = .ok (.iconst 1, 1) := by decide +kernel
theorem dX9_decades_12 : decode cX9_decades 12 = .ok (.ldc 238, 2) := by decide +kernel
theorem dX9_decades_14 : decode cX9_decades 14 = .ok (.invokestatic 69, 3) := by decide +kernel
theorem dX9_decades_17 : decode cX9_decades 17 = .ok (.ifCond .eq 12, 3) := by decide +kernel
theorem dX9_decades_20 : decode cX9_decades 20 = .ok (.iload_n 3, 1) := by decide +kernel
theorem dX9_decades_21 : decode cX9_decades 21 = .ok (.iconst 0, 1) := by decide +kernel
theorem dX9_decades_22 : decode cX9_decades 22 = .ok (.iconst 1, 1) := by decide +kernel
theorem dX9_decades_23 : decode cX9_decades 23 = .ok (.invokestatic 69, 3) := by decide +kernel
theorem dX9_decades_26 : decode cX9_decades 26 = .ok (.ifCond .ne 5, 3) := by decide +kernel
theorem dX9_decades_29 : decode cX9_decades 29 = .ok (.iconst (-1), 1) := by decide +kernel
theorem dX9_decades_30 : decode cX9_decades 30 = .ok (.ireturn, 1) := by decide +kernel
theorem dX9_decades_31 : decode cX9_decades 31 = .ok (.aload_n 0, 1) := by decide +kernel
theorem dX9_decades_32 : decode cX9_decades 32 = .ok (.getfield 26, 3) := by decide +kernel
theorem dX9_decades_35 : decode cX9_decades 35 = .ok (.invokevirtual 139, 3) := by decide +kernel
theorem dX9_decades_38 : decode cX9_decades 38 = .ok (.ifCond .eq 6, 3) := by decide +kernel
theorem dX9_decades_41 : decode cX9_decades 41 = .ok (.bipush (-2), 2) := by decide +kernel
theorem dX9_decades_43 : decode cX9_decades 43 = .ok (.ireturn, 1) := by decide +kernel
theorem dX9_decades_44 : decode cX9_decades 44 = .ok (.aload_n 0, 1) := by decide +kernel
theorem dX9_decades_45 : decode cX9_decades 45 = .ok (.getfield 57, 3) := by decide +kernel
theorem dX9_decades_48 : decode cX9_decades 48 = .ok (.aload_n 0, 1) := by decide +kernel
theorem dX9_decades_49 : decode cX9_decades 49 = .ok (.getfield 26, 3) := by decide +kernel
theorem dX9_decades_52 : decode cX9_decades 52 = .ok (.iload_n 1, 1) := by decide +kernel
theorem dX9_decades_53 : decode cX9_decades 53 = .ok (.iload_n 2, 1) := by decide +kernel
theorem dX9_decades_54 : decode cX9_decades 54 = .ok (.invokevirtual 239, 3) := by decide +kernel
theorem dX9_decades_57 : decode cX9_decades 57 = .ok (.astore 4, 2) := by decide +kernel
theorem dX9_decades_59 : decode cX9_decades 59 = .ok (.iload_n 3, 1) := by decide +kernel
theorem dX9_decades_60 : decode cX9_decades 60 = .ok (.ifCond .ne 11, 3) := by decide +kernel
theorem dX9_decades_63 : decode cX9_decades 63 = .ok (.aload 4, 2) := by decide +kernel
theorem dX9_decades_65 : decode cX9_decades 65 = .ok (.getfield 243, 3) := by decide +kernel
theorem dX9_decades_68 : decode cX9_decades 68 = .ok (.goto 8, 3) := by decide +kernel
theorem dX9_decades_71 : decode cX9_decades 71 = .ok (.aload 4, 2) := by decide +kernel
theorem dX9_decades_73 : decode cX9_decades 73 = .ok (.getfield 143, 3) := by decide +kernel
theorem dX9_decades_76 : decode cX9_decades 76 = .ok (.ireturn, 1) := by decide +kernel
theorem dX9_sheet_0 : decode cX9_sheet 0 = .ok (.iload_n 1, 1) := by decide +kernel
theorem dX9_sheet_1 : decode cX9_sheet 1 = .ok (.invokestatic 246, 3) := by decide +kernel
theorem dX9_sheet_4 : decode cX9_sheet 4 = .ok (.ifCond .eq 16, 3) := by decide +kernel
theorem dX9_sheet_7 : decode cX9_sheet 7 = .ok (.iload_n 2, 1) := by decide +kernel
theorem dX9_sheet_8 : decode cX9_sheet 8 = .ok (.invokestatic 249, 3) := by decide +kernel
theorem dX9_sheet_11 : decode cX9_sheet 11 = .ok (.ifCond .eq 9, 3) := by decide +kernel
theorem dX9_sheet_14 : decode cX9_sheet 14 = .ok (.iload_n 3, 1) := by decide +kernel
theorem dX9_sheet_15 : decode cX9_sheet 15 = .ok (.bipush 24, 2) := by decide +kernel
theorem dX9_sheet_17 : decode cX9_sheet 17 = .ok (.if_icmp .le 5, 3) := by decide +kernel
theorem dX9_sheet_20 : decode cX9_sheet 20 = .ok (.iconst (-1), 1) := by decide +kernel
theorem dX9_sheet_21 : decode cX9_sheet 21 = .ok (.ireturn, 1) := by decide +kernel
theorem dX9_sheet_22 : decode cX9_sheet 22 = .ok (.iload_n 3, 1) := by decide +kernel
theorem dX9_sheet_23 : decode cX9_sheet 23 = .ok (.ifCond .ge 6, 3) := by decide +kernel
theorem dX9_sheet_26 : decode cX9_sheet 26 = .ok (.bipush (-14), 2) := by decide +kernel
theorem dX9_sheet_28 : decode cX9_sheet 28 = .ok (.ireturn, 1) := by decide +kernel
theorem dX9_sheet_29 : decode cX9_sheet 29 = .ok (.aload_n 0, 1) := by decide +kernel
theorem dX9_sheet_30 : decode cX9_sheet 30 = .ok (.getfield 43, 3) := by decide +kernel
theorem dX9_sheet_33 : decode cX9_sheet 33 = .ok (.iload_n 1, 1) := by decide +kernel
theorem dX9_sheet_34 : decode cX9_sheet 34 = .ok (.aaload, 1) := by decide +kernel
theorem dX9_sheet_35 : decode cX9_sheet 35 = .ok (.iload_n 2, 1) := by decide +kernel
theorem dX9_sheet_36 : decode cX9_sheet 36 = .ok (.iload_n 3, 1) := by decide +kernel
theorem dX9_sheet_37 : decode cX9_sheet 37 = .ok (.invokevirtual 252, 3) := by decide +kernel
theorem dX9_sheet_40 : decode cX9_sheet 40 = .ok (.iload_n 3, 1) := by decide +kernel
theorem dX9_sheet_41 : decode cX9_sheet 41 = .ok (.ireturn, 1) := by decide +kernel
theorem dX9_drop_0 : decode cX9_drop 0 = .ok (.iload_n 1, 1) := by decide +kernel
theorem dX9_drop_1 : decode cX9_drop 1 = .ok (.invokestatic 246, 3) := by decide +kernel
theorem dX9_drop_4 : decode cX9_drop 4 = .ok (.ifCond .ne 5, 3) := by decide +kernel
theorem dX9_drop_7 : decode cX9_drop 7 = .ok (.iconst (-1), 1) := by decide +kernel
theorem dX9_drop_8 : decode cX9_drop 8 = .ok (.ireturn, 1) := by decide +kernel
theorem dX9_drop_9 : decode cX9_drop 9 = .ok (.aload_n 0, 1) := by decide +kernel
theorem dX9_drop_10 : decode cX9_drop 10 = .ok (.getfield 43, 3) := by decide +kernel
theorem dX9_drop_13 : decode cX9_drop 13 = .ok (.iload_n 1, 1) := by decide +kernel
theorem dX9_drop_14 : decode cX9_drop 14 = .ok (.aaload, 1) := by decide +kernel
theorem dX9_drop_15 : decode cX9_drop 15 = .ok (.invokevirtual 254, 3) := by decide +kernel
theorem dX9_drop_18 : decode cX9_drop 18 = .ok (.ifCond .eq 6, 3) := by decide +kernel
theorem dX9_drop_21 : decode cX9_drop 21 = .ok (.bipush (-11), 2) := by decide +kernel
theorem dX9_drop_23 : decode cX9_drop 23 = .ok (.ireturn, 1) := by decide +kernel
theorem dX9_drop_24 : decode cX9_drop 24 = .ok (.aload_n 0, 1) := by decide +kernel
theorem dX9_drop_25 : decode cX9_drop 25 = .ok (.getfield 43, 3) := by decide +kernel
theorem dX9_drop_28 : decode cX9_drop 28 = .ok (.iload_n 1, 1) := by decide +kernel
theorem dX9_drop_29 : decode cX9_drop 29 = .ok (.aaload, 1) := by decide +kernel
theorem dX9_drop_30 : decode cX9_drop 30 = .ok (.getfield 257, 3) := by decide +kernel
theorem dX9_drop_33 : decode cX9_drop 33 = .ok (.istore_n 2, 1) := by decide +kernel
theorem dX9_drop_34 : decode cX9_drop 34 = .ok (.aload_n 0, 1) := by decide +kernel
theorem dX9_drop_35 : decode cX9_drop 35 = .ok (.getfield 43, 3) := by decide +kernel
theorem dX9_drop_38 : decode cX9_drop 38 = .ok (.iload_n 1, 1) := by decide +kernel
theorem dX9_drop_39 : decode cX9_drop 39 = .ok (.aaload, 1) := by decide +kernel
theorem dX9_drop_40 : decode cX9_drop 40 = .ok (.invokevirtual 260, 3) := by decide +kernel
theorem dX9_drop_43 : decode cX9_drop 43 = .ok (.iload_n 2, 1) := by decide +kernel
theorem dX9_drop_44 : decode cX9_drop 44 = .ok (.ireturn, 1) := by decide +kernel
theorem dX9_item_0 : decode cX9_item 0 = .ok (.iload_n 1, 1) := by decide +kernel
theorem dX9_item_1 : decode cX9_item 1 = .ok (.invokestatic 246, 3) := by decide +kernel
theorem dX9_item_4 : decode cX9_item 4 = .ok (.ifCond .eq 10, 3) := by decide +kernel
theorem dX9_item_7 : decode cX9_item 7 = .ok (.iload_n 2, 1) := by decide +kernel
theorem dX9_item_8 : decode cX9_item 8 = .ok (.invokestatic 249, 3) := by decide +kernel
theorem dX9_item_11 : decode cX9_item 11 = .ok (.ifCond .ne 7, 3) := by decide +kernel
theorem dX9_item_14 : decode cX9_item 14 = .ok (.ldc2_w 263, 3) := by decide +kernel
theorem dX9_item_17 : decode cX9_item 17 = .ok (.lreturn, 1) := by decide +kernel
theorem dX9_item_18 : decode cX9_item 18 = .ok (.aload_n 0, 1) := by decide +kernel
theorem dX9_item_19 : decode cX9_item 19 = .ok (.getfield 43, 3) := by decide +kernel
theorem dX9_item_22 : decode cX9_item 22 = .ok (.iload_n 1, 1) := by decide +kernel
theorem dX9_item_23 : decode cX9_item 23 = .ok (.aaload, 1) := by decide +kernel
theorem dX9_item_24 : decode cX9_item 24 = .ok (.iload_n 2, 1) := by decide +kernel
theorem dX9_item_25 : decode cX9_item 25 = .ok (.iload_n 3, 1) := by decide +kernel
theorem dX9_item_26 : decode cX9_item 26 = .ok (.iconst 1, 1) := by decide +kernel
theorem dX9_item_27 : decode cX9_item 27 = .ok (.invokevirtual 265, 3) := by decide +kernel
theorem dX9_item_30 : decode cX9_item 30 = .ok (.istore 6, 2) := by decide +kernel
theorem dX9_item_32 : decode cX9_item 32 = .ok (.iload 6, 2) := by decide +kernel
theorem dX9_item_34 : decode cX9_item 34 = .ok (.ifCond .eq 9, 3) := by decide +kernel
theorem dX9_item_37 : decode cX9_item 37 = .ok (.iload 6, 2) := by decide +kernel
theorem dX9_item_39 : decode cX9_item 39 = .ok (.i2l, 1) := by decide +kernel
theorem dX9_item_40 : decode cX9_item 40 = .ok (.goto 15, 3) := by decide +kernel
theorem dX9_item_43 : decode cX9_item 43 = .ok (.aload_n 0, 1) := by decide +kernel
theorem dX9_item_44 : decode cX9_item 44 = .ok (.getfield 43, 3) := by decide +kernel
theorem dX9_item_47 : decode cX9_item 47 = .ok (.iload_n 1, 1) := by decide +kernel
theorem dX9_item_48 : decode cX9_item 48 = .ok (.aaload, 1) := by decide +kernel
theorem dX9_item_49 : decode cX9_item 49 = .ok (.iload_n 3, 1) := by decide +kernel
theorem dX9_item_50 : decode cX9_item 50 = .ok (.lload 4, 2) := by decide +kernel
theorem dX9_item_52 : decode cX9_item 52 = .ok (.invokevirtual 268, 3) := by decide +kernel
theorem dX9_item_55 : decode cX9_item 55 = .ok (.lreturn, 1) := by decide +kernel
theorem dX9_copy_0 : decode cX9_copy 0 = .ok (.iload_n 1, 1) := by decide +kernel
theorem dX9_copy_1 : decode cX9_copy 1 = .ok (.invokestatic 246, 3) := by decide +kernel
theorem dX9_copy_4 : decode cX9_copy 4 = .ok (.ifCond .eq 10, 3) := by decide +kernel
theorem dX9_copy_7 : decode cX9_copy 7 = .ok (.iload_n 3, 1) := by decide +kernel
theorem dX9_copy_8 : decode cX9_copy 8 = .ok (.invokestatic 246, 3) := by decide +kernel
theorem dX9_copy_11 : decode cX9_copy 11 = .ok (.ifCond .ne 5, 3) := by decide +kernel
theorem dX9_copy_14 : decode cX9_copy 14 = .ok (.iconst (-1), 1) := by decide +kernel
theorem dX9_copy_15 : decode cX9_copy 15 = .ok (.ireturn, 1) := by decide +kernel
theorem dX9_copy_16 : decode cX9_copy 16 = .ok (.aload_n 0, 1) := by decide +kernel
theorem dX9_copy_17 : decode cX9_copy 17 = .ok (.getfield 43, 3) := by decide +kernel
theorem dX9_copy_20 : decode cX9_copy 20 = .ok (.iload_n 1, 1) := by decide +kernel
theorem dX9_copy_21 : decode cX9_copy 21 = .ok (.aaload, 1) := by decide +kernel
theorem dX9_copy_22 : decode cX9_copy 22 = .ok (.astore 6, 2) := by decide +kernel
theorem dX9_copy_24 : decode cX9_copy 24 = .ok (.aload_n 0, 1) := by decide +kernel
theorem dX9_copy_25 : decode cX9_copy 25 = .ok (.getfield 43, 3) := by decide +kernel
theorem dX9_copy_28 : decode cX9_copy 28 = .ok (.iload_n 3, 1) := by decide +kernel
theorem dX9_copy_29 : decode cX9_copy 29 = .ok (.aaload, 1) := by decide +kernel
theorem dX9_copy_30 : decode cX9_copy 30 = .ok (.astore 7, 2) := by decide +kernel
theorem dX9_copy_32 : decode cX9_copy 32 = .ok (.aload 6, 2) := by decide +kernel
theorem dX9_copy_34 : decode cX9_copy 34 = .ok (.invokevirtual 254, 3) := by decide +kernel
theorem dX9_copy_37 : decode cX9_copy 37 = .ok (.ifCond .ne 11, 3) := by decide +kernel
theorem dX9_copy_40 : decode cX9_copy 40 = .ok (.aload 7, 2) := by decide +kernel
theorem dX9_copy_42 : decode cX9_copy 42 = .ok (.invokevirtual 254, 3) := by decide +kernel
theorem dX9_copy_45 : decode cX9_copy 45 = .ok (.ifCond .eq 6, 3) := by decide +kernel
theorem dX9_copy_48 : decode cX9_copy 48 = .ok (.bipush (-11), 2) := by decide +kernel
theorem dX9_copy_50 : decode cX9_copy 50 = .ok (.ireturn, 1) := by decide +kernel
theorem dX9_copy_51 : decode cX9_copy 51 = .ok (.aload 6, 2) := by decide +kernel
theorem dX9_copy_53 : decode cX9_copy 53 = .ok (.getfield 272, 3) := by decide +kernel
theorem dX9_copy_56 : decode cX9_copy 56 = .ok (.aload 7, 2) := by decide +kernel
theorem dX9_copy_58 : decode cX9_copy 58 = .ok (.getfield 272, 3) := by decide +kernel
theorem dX9_copy_61 : decode cX9_copy 61 = .ok (.if_icmp .eq 6, 3) := by decide +kernel
theorem dX9_copy_64 : decode cX9_copy 64 = .ok (.bipush (-12), 2) := by decide +kernel
theorem dX9_copy_66 : decode cX9_copy 66 = .ok (.ireturn, 1) := by decide +kernel
theorem dX9_copy_67 : decode cX9_copy 67 = .ok (.aload 6, 2) := by decide +kernel
theorem dX9_copy_69 : decode cX9_copy 69 = .ok (.iload_n 2, 1) := by decide +kernel
theorem dX9_copy_70 : decode cX9_copy 70 = .ok (.iload 5, 2) := by decide +kernel
theorem dX9_copy_72 : decode cX9_copy 72 = .ok (.invokevirtual 275, 3) := by decide +kernel
theorem dX9_copy_75 : decode cX9_copy 75 = .ok (.ifCond .eq 15, 3) := by decide +kernel
theorem dX9_copy_78 : decode cX9_copy 78 = .ok (.aload 7, 2) := by decide +kernel
theorem dX9_copy_80 : decode cX9_copy 80 = .ok (.iload 4, 2) := by decide +kernel
theorem dX9_copy_82 : decode cX9_copy 82 = .ok (.iload 5, 2) := by decide +kernel
theorem dX9_copy_84 : decode cX9_copy 84 = .ok (.invokevirtual 275, 3) := by decide +kernel
theorem dX9_copy_87 : decode cX9_copy 87 = .ok (.ifCond .ne 6, 3) := by decide +kernel
theorem dX9_copy_90 : decode cX9_copy 90 = .ok (.bipush (-13), 2) := by decide +kernel
theorem dX9_copy_92 : decode cX9_copy 92 = .ok (.ireturn, 1) := by decide +kernel
theorem dX9_copy_93 : decode cX9_copy 93 = .ok (.aload 6, 2) := by decide +kernel
theorem dX9_copy_95 : decode cX9_copy 95 = .ok (.getfield 278, 3) := by decide +kernel
theorem dX9_copy_98 : decode cX9_copy 98 = .ok (.iload_n 2, 1) := by decide +kernel
theorem dX9_copy_99 : decode cX9_copy 99 = .ok (.aload 7, 2) := by decide +kernel
theorem dX9_copy_101 : decode cX9_copy 101 = .ok (.getfield 278, 3) := by decide +kernel
theorem dX9_copy_104 : decode cX9_copy 104 = .ok (.iload 4, 2) := by decide +kernel
theorem dX9_copy_106 : decode cX9_copy 106 = .ok (.iload 5, 2) := by decide +kernel
theorem dX9_copy_108 : decode cX9_copy 108 = .ok (.invokestatic 282, 3) := by decide +kernel
theorem dX9_copy_111 : decode cX9_copy 111 = .ok (.iload 5, 2) := by decide +kernel
theorem dX9_copy_113 : decode cX9_copy 113 = .ok (.ireturn, 1) := by decide +kernel
theorem dX9_log_0 : decode cX9_log 0 = .ok (.iload_n 1, 1) := by decide +kernel
theorem dX9_log_1 : decode cX9_log 1 = .ok (.invokestatic 246, 3) := by decide +kernel
theorem dX9_log_4 : decode cX9_log 4 = .ok (.ifCond .eq 21, 3) := by decide +kernel
theorem dX9_log_7 : decode cX9_log 7 = .ok (.iload_n 2, 1) := by decide +kernel
theorem dX9_log_8 : decode cX9_log 8 = .ok (.invokestatic 249, 3) := by decide +kernel
theorem dX9_log_11 : decode cX9_log 11 = .ok (.ifCond .eq 14, 3) := by decide +kernel
theorem dX9_log_14 : decode cX9_log 14 = .ok (.iload 4, 2) := by decide +kernel
theorem dX9_log_16 : decode cX9_log 16 = .ok (.iconst 1, 1) := by decide +kernel
theorem dX9_log_17 : decode cX9_log 17 = .ok (.bipush 24, 2) := by decide +kernel
theorem dX9_log_19 : decode cX9_log 19 = .ok (.invokestatic 69, 3) := by decide +kernel
theorem dX9_log_22 : decode cX9_log 22 = .ok (.ifCond .ne 5, 3) := by decide +kernel
theorem dX9_log_25 : decode cX9_log 25 = .ok (.iconst (-1), 1) := by decide +kernel
theorem dX9_log_26 : decode cX9_log 26 = .ok (.ireturn, 1) := by decide +kernel
theorem dX9_log_27 : decode cX9_log 27 = .ok (.aload_n 0, 1) := by decide +kernel
theorem dX9_log_28 : decode cX9_log 28 = .ok (.getfield 43, 3) := by decide +kernel
theorem dX9_log_31 : decode cX9_log 31 = .ok (.iload_n 1, 1) := by decide +kernel
theorem dX9_log_32 : decode cX9_log 32 = .ok (.aaload, 1) := by decide +kernel
theorem dX9_log_33 : decode cX9_log 33 = .ok (.iload_n 2, 1) := by decide +kernel
theorem dX9_log_34 : decode cX9_log 34 = .ok (.iload_n 3, 1) := by decide +kernel
theorem dX9_log_35 : decode cX9_log 35 = .ok (.iload 4, 2) := by decide +kernel
theorem dX9_log_37 : decode cX9_log 37 = .ok (.invokevirtual 265, 3) := by decide +kernel
theorem dX9_log_40 : decode cX9_log 40 = .ok (.istore 5, 2) := by decide +kernel
theorem dX9_log_42 : decode cX9_log 42 = .ok (.iload 5, 2) := by decide +kernel
theorem dX9_log_44 : decode cX9_log 44 = .ok (.ifCond .eq 6, 3) := by decide +kernel
theorem dX9_log_47 : decode cX9_log 47 = .ok (.iload 5, 2) := by decide +kernel
theorem dX9_log_49 : decode cX9_log 49 = .ok (.ireturn, 1) := by decide +kernel
theorem dX9_log_50 : decode cX9_log 50 = .ok (.aload_n 0, 1) := by decide +kernel
theorem dX9_log_51 : decode cX9_log 51 = .ok (.getfield 26, 3) := by decide +kernel
theorem dX9_log_54 : decode cX9_log 54 = .ok (.invokevirtual 139, 3) := by decide +kernel
theorem dX9_log_57 : decode cX9_log 57 = .ok (.ifCond .eq 6, 3) := by decide +kernel
theorem dX9_log_60 : decode cX9_log 60 = .ok (.bipush (-2), 2) := by decide +kernel
theorem dX9_log_62 : decode cX9_log 62 = .ok (.ireturn, 1) := by decide +kernel
theorem dX9_log_63 : decode cX9_log 63 = .ok (.aload_n 0, 1) := by decide +kernel
theorem dX9_log_64 : decode cX9_log 64 = .ok (.getfield 50, 3) := by decide +kernel
theorem dX9_log_67 : decode cX9_log 67 = .ok (.aload_n 0, 1) := by decide +kernel
theorem dX9_log_68 : decode cX9_log 68 = .ok (.getfield 26, 3) := by decide +kernel
theorem dX9_log_71 : decode cX9_log 71 = .ok (.invokevirtual 195, 3) := by decide +kernel
theorem dX9_log_74 : decode cX9_log 74 = .ok (.aload_n 0, 1) := by decide +kernel
theorem dX9_log_75 : decode cX9_log 75 = .ok (.getfield 50, 3) := by decide +kernel
theorem dX9_log_78 : decode cX9_log 78 = .ok (.aload_n 0, 1) := by decide +kernel
theorem dX9_log_79 : decode cX9_log 79 = .ok (.getfield 43, 3) := by decide +kernel
theorem dX9_log_82 : decode cX9_log 82 = .ok (.iload_n 1, 1) := by decide +kernel
theorem dX9_log_83 : decode cX9_log 83 = .ok (.aaload, 1) := by decide +kernel
theorem dX9_log_84 : decode cX9_log 84 = .ok (.iload_n 3, 1) := by decide +kernel
theorem dX9_log_85 : decode cX9_log 85 = .ok (.iload 4, 2) := by decide +kernel
theorem dX9_log_87 : decode cX9_log 87 = .ok (.invokevirtual 288, 3) := by decide +kernel
theorem dX9_log_90 : decode cX9_log 90 = .ok (.iload 4, 2) := by decide +kernel
theorem dX9_log_92 : decode cX9_log 92 = .ok (.ireturn, 1) := by decide +kernel
theorem dX9_foldings_0 : decode cX9_foldings 0 = .ok (.aload_n 0, 1) := by decide +kernel
theorem dX9_foldings_1 : decode cX9_foldings 1 = .ok (.getfield 26, 3) := by decide +kernel
theorem dX9_foldings_4 : decode cX9_foldings 4 = .ok (.invokevirtual 139, 3) := by decide +kernel
theorem dX9_foldings_7 : decode cX9_foldings 7 = .ok (.ifCond .ne 38, 3) := by decide +kernel
theorem dX9_foldings_10 : decode cX9_foldings 10 = .ok (.iload_n 1, 1) := by decide +kernel
theorem dX9_foldings_11 : decode cX9_foldings 11 = .ok (.invokestatic 246, 3) := by decide +kernel
theorem dX9_foldings_14 : decode cX9_foldings 14 = .ok (.ifCond .eq 31, 3) := by decide +kernel
theorem dX9_foldings_17 : decode cX9_foldings 17 = .ok (.iload_n 2, 1) := by decide +kernel
theorem dX9_foldings_18 : decode cX9_foldings 18 = .ok (.invokestatic 249, 3) := by decide +kernel
theorem dX9_foldings_21 : decode cX9_foldings 21 = .ok (.ifCond .eq 24, 3) := by decide +kernel
theorem dX9_foldings_24 : decode cX9_foldings 24 = .ok (.iload 4, 2) := by decide +kernel
theorem dX9_foldings_26 : decode cX9_foldings 26 = .ok (.iconst 0, 1) := by decide +kernel
theorem dX9_foldings_27 : decode cX9_foldings 27 = .ok (.bipush 8, 2) := by decide +kernel
theorem dX9_foldings_29 : decode cX9_foldings 29 = .ok (.invokestatic 69, 3) := by decide +kernel
theorem dX9_foldings_32 : decode cX9_foldings 32 = .ok (.ifCond .eq 13, 3) := by decide +kernel
theorem dX9_foldings_35 : decode cX9_foldings 35 = .ok (.iload 5, 2) := by decide +kernel
theorem dX9_foldings_37 : decode cX9_foldings 37 = .ok (.iconst 0, 1) := by decide +kernel
theorem dX9_foldings_38 : decode cX9_foldings 38 = .ok (.iconst 2, 1) := by decide +kernel
theorem dX9_foldings_39 : decode cX9_foldings 39 = .ok (.invokestatic 69, 3) := by decide +kernel
theorem dX9_foldings_42 : decode cX9_foldings 42 = .ok (.ifCond .ne 5, 3) := by decide +kernel
theorem dX9_foldings_45 : decode cX9_foldings 45 = .ok (.iconst (-1), 1) := by decide +kernel
theorem dX9_foldings_46 : decode cX9_foldings 46 = .ok (.ireturn, 1) := by decide +kernel
theorem dX9_foldings_47 : decode cX9_foldings 47 = .ok (.aload_n 0, 1) := by decide +kernel
theorem dX9_foldings_48 : decode cX9_foldings 48 = .ok (.getfield 43, 3) := by decide +kernel
theorem dX9_foldings_51 : decode cX9_foldings 51 = .ok (.iload_n 1, 1) := by decide +kernel
theorem dX9_foldings_52 : decode cX9_foldings 52 = .ok (.aaload, 1) := by decide +kernel
theorem dX9_foldings_53 : decode cX9_foldings 53 = .ok (.iload_n 2, 1) := by decide +kernel
theorem dX9_foldings_54 : decode cX9_foldings 54 = .ok (.iload_n 3, 1) := by decide +kernel
theorem dX9_foldings_55 : decode cX9_foldings 55 = .ok (.iconst 2, 1) := by decide +kernel
theorem dX9_foldings_56 : decode cX9_foldings 56 = .ok (.iconst 2, 1) := by decide +kernel
theorem dX9_foldings_57 : decode cX9_foldings 57 = .ok (.iload 4, 2) := by decide +kernel
theorem dX9_foldings_59 : decode cX9_foldings 59 = .ok (.imul, 1) := by decide +kernel
theorem dX9_foldings_60 : decode cX9_foldings 60 = .ok (.iadd, 1) := by decide +kernel
theorem dX9_foldings_61 : decode cX9_foldings 61 = .ok (.invokevirtual 265, 3) := by decide +kernel
theorem dX9_foldings_64 : decode cX9_foldings 64 = .ok (.istore 6, 2) := by decide +kernel
theorem dX9_foldings_66 : decode cX9_foldings 66 = .ok (.iload 6, 2) := by decide +kernel
theorem dX9_foldings_68 : decode cX9_foldings 68 = .ok (.ifCond .eq 6, 3) := by decide +kernel
theorem dX9_foldings_71 : decode cX9_foldings 71 = .ok (.iload 6, 2) := by decide +kernel
theorem dX9_foldings_73 : decode cX9_foldings 73 = .ok (.ireturn, 1) := by decide +kernel
theorem dX9_foldings_74 : decode cX9_foldings 74 = .ok (.aload_n 0, 1) := by decide +kernel
theorem dX9_foldings_75 : decode cX9_foldings 75 = .ok (.getfield 64, 3) := by decide +kernel
theorem dX9_foldings_78 : decode cX9_foldings 78 = .ok (.aload_n 0, 1) := by decide +kernel
theorem dX9_foldings_79 : decode cX9_foldings 79 = .ok (.getfield 43, 3) := by decide +kernel
theorem dX9_foldings_82 : decode cX9_foldings 82 = .ok (.iload_n 1, 1) := by decide +kernel
theorem dX9_foldings_83 : decode cX9_foldings 83 = .ok (.aaload, 1) := by decide +kernel
theorem dX9_foldings_84 : decode cX9_foldings 84 = .ok (.iload_n 3, 1) := by decide +kernel
theorem dX9_foldings_85 : decode cX9_foldings 85 = .ok (.iload 4, 2) := by decide +kernel
