theorem dX0_init_0 : decode cX0_init 0 = .ok (.aload_n 0, 1) := by decide +kernel
theorem dX0_init_1 : decode cX0_init 1 = .ok (.invokespecial 3, 3) := by decide +kernel
theorem dX0_init_4 : decode cX0_init 4 = .ok (.aload_n 0, 1) := by decide +kernel
theorem dX0_init_5 : decode cX0_init 5 = .ok (.new 9, 3) := by decide +kernel
theorem dX0_init_8 : decode cX0_init 8 = .ok (.dup, 1) := by decide +kernel
theorem dX0_init_9 : decode cX0_init 9 = .ok (.invokespecial 11, 3) := by decide +kernel
theorem dX0_init_12 : decode cX0_init 12 = .ok (.putfield 12, 3) := by decide +kernel
theorem dX0_init_15 : decode cX0_init 15 = .ok (.aload_n 0, 1) := by decide +kernel
theorem dX0_init_16 : decode cX0_init 16 = .ok (.bipush 20, 2) := by decide +kernel
theorem dX0_init_18 : decode cX0_init 18 = .ok (.newarray .int, 2) := by decide +kernel
theorem dX0_init_20 : decode cX0_init 20 = .ok (.putfield 18, 3) := by decide +kernel
theorem dX0_init_23 : decode cX0_init 23 = .ok (.aload_n 0, 1) := by decide +kernel
theorem dX0_init_24 : decode cX0_init 24 = .ok (.bipush 20, 2) := by decide +kernel
theorem dX0_init_26 : decode cX0_init 26 = .ok (.newarray .int, 2) := by decide +kernel
theorem dX0_init_28 : decode cX0_init 28 = .ok (.putfield 22, 3) := by decide +kernel
theorem dX0_init_31 : decode cX0_init 31 = .ok (.aload_n 0, 1) := by decide +kernel
theorem dX0_init_32 : decode cX0_init 32 = .ok (.bipush 20, 2) := by decide +kernel
theorem dX0_init_34 : decode cX0_init 34 = .ok (.newarray .int, 2) := by decide +kernel
theorem dX0_init_36 : decode cX0_init 36 = .ok (.putfield 25, 3) := by decide +kernel
theorem dX0_init_39 : decode cX0_init 39 = .ok (.aload_n 0, 1) := by decide +kernel
theorem dX0_init_40 : decode cX0_init 40 = .ok (.bipush 8, 2) := by decide +kernel
theorem dX0_init_42 : decode cX0_init 42 = .ok (.newarray .int, 2) := by decide +kernel
theorem dX0_init_44 : decode cX0_init 44 = .ok (.putfield 28, 3) := by decide +kernel
theorem dX0_init_47 : decode cX0_init 47 = .ok (.aload_n 0, 1) := by decide +kernel
theorem dX0_init_48 : decode cX0_init 48 = .ok (.bipush 8, 2) := by decide +kernel
theorem dX0_init_50 : decode cX0_init 50 = .ok (.newarray .int, 2) := by decide +kernel
theorem dX0_init_52 : decode cX0_init 52 = .ok (.putfield 31, 3) := by decide +kernel
theorem dX0_init_55 : decode cX0_init 55 = .ok (.aload_n 0, 1) := by decide +kernel
theorem dX0_init_56 : decode cX0_init 56 = .ok (.bipush 18, 2) := by decide +kernel
theorem dX0_init_58 : decode cX0_init 58 = .ok (.newarray .int, 2) := by decide +kernel
theorem dX0_init_60 : decode cX0_init 60 = .ok (.putfield 34, 3) := by decide +kernel
theorem dX0_init_63 : decode cX0_init 63 = .ok (.return_, 1) := by decide +kernel
theorem dX0_hear_0 : decode cX0_hear 0 = .ok (.iload_n 3, 1) := by decide +kernel
theorem dX0_hear_1 : decode cX0_hear 1 = .ok (.bipush 8, 2) := by decide +kernel
theorem dX0_hear_3 : decode cX0_hear 3 = .ok (.if_icmp .gt 31, 3) := by decide +kernel
theorem dX0_hear_6 : decode cX0_hear 6 = .ok (.aload_n 1, 1) := by decide +kernel
theorem dX0_hear_7 : decode cX0_hear 7 = .ok (.iload_n 2, 1) := by decide +kernel
theorem dX0_hear_8 : decode cX0_hear 8 = .ok (.invokevirtual 37, 3) := by decide +kernel
theorem dX0_hear_11 : decode cX0_hear 11 = .ok (.iload 4, 2) := by decide +kernel
theorem dX0_hear_13 : decode cX0_hear 13 = .ok (.invokestatic 43, 3) := by decide +kernel
theorem dX0_hear_16 : decode cX0_hear 16 = .ok (.ifCond .eq 18, 3) := by decide +kernel
theorem dX0_hear_19 : decode cX0_hear 19 = .ok (.aload_n 1, 1) := by decide +kernel
theorem dX0_hear_20 : decode cX0_hear 20 = .ok (.iload_n 2, 1) := by decide +kernel
theorem dX0_hear_21 : decode cX0_hear 21 = .ok (.iconst 1, 1) := by decide +kernel
theorem dX0_hear_22 : decode cX0_hear 22 = .ok (.iadd, 1) := by decide +kernel
theorem dX0_hear_23 : decode cX0_hear 23 = .ok (.invokevirtual 37, 3) := by decide +kernel
theorem dX0_hear_26 : decode cX0_hear 26 = .ok (.iload 4, 2) := by decide +kernel
theorem dX0_hear_28 : decode cX0_hear 28 = .ok (.invokestatic 43, 3) := by decide +kernel
theorem dX0_hear_31 : decode cX0_hear 31 = .ok (.ifCond .ne 5, 3) := by decide +kernel
theorem dX0_hear_34 : decode cX0_hear 34 = .ok (.iconst 0, 1) := by decide +kernel
theorem dX0_hear_35 : decode cX0_hear 35 = .ok (.ireturn, 1) := by decide +kernel
theorem dX0_hear_36 : decode cX0_hear 36 = .ok (.aload_n 0, 1) := by decide +kernel
theorem dX0_hear_37 : decode cX0_hear 37 = .ok (.aload_n 1, 1) := by decide +kernel
theorem dX0_hear_38 : decode cX0_hear 38 = .ok (.iload_n 2, 1) := by decide +kernel
theorem dX0_hear_39 : decode cX0_hear 39 = .ok (.invokevirtual 37, 3) := by decide +kernel
theorem dX0_hear_42 : decode cX0_hear 42 = .ok (.l2i, 1) := by decide +kernel
theorem dX0_hear_43 : decode cX0_hear 43 = .ok (.putfield 47, 3) := by decide +kernel
theorem dX0_hear_46 : decode cX0_hear 46 = .ok (.aload_n 0, 1) := by decide +kernel
theorem dX0_hear_47 : decode cX0_hear 47 = .ok (.aload_n 1, 1) := by decide +kernel
theorem dX0_hear_48 : decode cX0_hear 48 = .ok (.iload_n 2, 1) := by decide +kernel
theorem dX0_hear_49 : decode cX0_hear 49 = .ok (.iconst 1, 1) := by decide +kernel
theorem dX0_hear_50 : decode cX0_hear 50 = .ok (.iadd, 1) := by decide +kernel
theorem dX0_hear_51 : decode cX0_hear 51 = .ok (.invokevirtual 37, 3) := by decide +kernel
theorem dX0_hear_54 : decode cX0_hear 54 = .ok (.l2i, 1) := by decide +kernel
theorem dX0_hear_55 : decode cX0_hear 55 = .ok (.putfield 51, 3) := by decide +kernel
theorem dX0_hear_58 : decode cX0_hear 58 = .ok (.aload_n 0, 1) := by decide +kernel
theorem dX0_hear_59 : decode cX0_hear 59 = .ok (.iload_n 3, 1) := by decide +kernel
theorem dX0_hear_60 : decode cX0_hear 60 = .ok (.putfield 54, 3) := by decide +kernel
theorem dX0_hear_63 : decode cX0_hear 63 = .ok (.iconst 0, 1) := by decide +kernel
theorem dX0_hear_64 : decode cX0_hear 64 = .ok (.istore 5, 2) := by decide +kernel
theorem dX0_hear_66 : decode cX0_hear 66 = .ok (.iload 5, 2) := by decide +kernel
theorem dX0_hear_68 : decode cX0_hear 68 = .ok (.iload_n 3, 1) := by decide +kernel
theorem dX0_hear_69 : decode cX0_hear 69 = .ok (.if_icmp .ge 78, 3) := by decide +kernel
theorem dX0_hear_72 : decode cX0_hear 72 = .ok (.aload_n 1, 1) := by decide +kernel
theorem dX0_hear_73 : decode cX0_hear 73 = .ok (.iload_n 2, 1) := by decide +kernel
theorem dX0_hear_74 : decode cX0_hear 74 = .ok (.iconst 2, 1) := by decide +kernel
theorem dX0_hear_75 : decode cX0_hear 75 = .ok (.iadd, 1) := by decide +kernel
theorem dX0_hear_76 : decode cX0_hear 76 = .ok (.iconst 2, 1) := by decide +kernel
theorem dX0_hear_77 : decode cX0_hear 77 = .ok (.iload 5, 2) := by decide +kernel
theorem dX0_hear_79 : decode cX0_hear 79 = .ok (.imul, 1) := by decide +kernel
theorem dX0_hear_80 : decode cX0_hear 80 = .ok (.iadd, 1) := by decide +kernel
theorem dX0_hear_81 : decode cX0_hear 81 = .ok (.invokevirtual 37, 3) := by decide +kernel
theorem dX0_hear_84 : decode cX0_hear 84 = .ok (.lstore 6, 2) := by decide +kernel
theorem dX0_hear_86 : decode cX0_hear 86 = .ok (.aload_n 1, 1) := by decide +kernel
theorem dX0_hear_87 : decode cX0_hear 87 = .ok (.iload_n 2, 1) := by decide +kernel
theorem dX0_hear_88 : decode cX0_hear 88 = .ok (.iconst 3, 1) := by decide +kernel
theorem dX0_hear_89 : decode cX0_hear 89 = .ok (.iadd, 1) := by decide +kernel
theorem dX0_hear_90 : decode cX0_hear 90 = .ok (.iconst 2, 1) := by decide +kernel
theorem dX0_hear_91 : decode cX0_hear 91 = .ok (.iload 5, 2) := by decide +kernel
theorem dX0_hear_93 : decode cX0_hear 93 = .ok (.imul, 1) := by decide +kernel
theorem dX0_hear_94 : decode cX0_hear 94 = .ok (.iadd, 1) := by decide +kernel
theorem dX0_hear_95 : decode cX0_hear 95 = .ok (.invokevirtual 37, 3) := by decide +kernel
theorem dX0_hear_98 : decode cX0_hear 98 = .ok (.lstore 8, 2) := by decide +kernel
theorem dX0_hear_100 : decode cX0_hear 100 = .ok (.lload 6, 2) := by decide +kernel
theorem dX0_hear_102 : decode cX0_hear 102 = .ok (.iconst 3, 1) := by decide +kernel
theorem dX0_hear_103 : decode cX0_hear 103 = .ok (.invokestatic 43, 3) := by decide +kernel
theorem dX0_hear_106 : decode cX0_hear 106 = .ok (.ifCond .eq 13, 3) := by decide +kernel
theorem dX0_hear_109 : decode cX0_hear 109 = .ok (.lload 8, 2) := by decide +kernel
theorem dX0_hear_111 : decode cX0_hear 111 = .ok (.iload 4, 2) := by decide +kernel
theorem dX0_hear_113 : decode cX0_hear 113 = .ok (.invokestatic 43, 3) := by decide +kernel
theorem dX0_hear_116 : decode cX0_hear 116 = .ok (.ifCond .ne 5, 3) := by decide +kernel
theorem dX0_hear_119 : decode cX0_hear 119 = .ok (.iconst 0, 1) := by decide +kernel
theorem dX0_hear_120 : decode cX0_hear 120 = .ok (.ireturn, 1) := by decide +kernel
theorem dX0_hear_121 : decode cX0_hear 121 = .ok (.aload_n 0, 1) := by decide +kernel
theorem dX0_hear_122 : decode cX0_hear 122 = .ok (.getfield 28, 3) := by decide +kernel
theorem dX0_hear_125 : decode cX0_hear 125 = .ok (.iload 5, 2) := by decide +kernel
theorem dX0_hear_127 : decode cX0_hear 127 = .ok (.lload 6, 2) := by decide +kernel
theorem dX0_hear_129 : decode cX0_hear 129 = .ok (.l2i, 1) := by decide +kernel
theorem dX0_hear_130 : decode cX0_hear 130 = .ok (.iastore, 1) := by decide +kernel
theorem dX0_hear_131 : decode cX0_hear 131 = .ok (.aload_n 0, 1) := by decide +kernel
theorem dX0_hear_132 : decode cX0_hear 132 = .ok (.getfield 31, 3) := by decide +kernel
theorem dX0_hear_135 : decode cX0_hear 135 = .ok (.iload 5, 2) := by decide +kernel
theorem dX0_hear_137 : decode cX0_hear 137 = .ok (.lload 8, 2) := by decide +kernel
theorem dX0_hear_139 : decode cX0_hear 139 = .ok (.l2i, 1) := by decide +kernel
theorem dX0_hear_140 : decode cX0_hear 140 = .ok (.iastore, 1) := by decide +kernel
theorem dX0_hear_141 : decode cX0_hear 141 = .ok (.iinc 5 1, 3) := by decide +kernel
theorem dX0_hear_144 : decode cX0_hear 144 = .ok (.goto (-78), 3) := by decide +kernel
theorem dX0_hear_147 : decode cX0_hear 147 = .ok (.aload_n 0, 1) := by decide +kernel
theorem dX0_hear_148 : decode cX0_hear 148 = .ok (.getfield 47, 3) := by decide +kernel
theorem dX0_hear_151 : decode cX0_hear 151 = .ok (.aload_n 0, 1) := by decide +kernel
theorem dX0_hear_152 : decode cX0_hear 152 = .ok (.getfield 51, 3) := by decide +kernel
theorem dX0_hear_155 : decode cX0_hear 155 = .ok (.if_icmp .eq 7, 3) := by decide +kernel
theorem dX0_hear_158 : decode cX0_hear 158 = .ok (.iconst 1, 1) := by decide +kernel
theorem dX0_hear_159 : decode cX0_hear 159 = .ok (.goto 4, 3) := by decide +kernel
theorem dX0_hear_162 : decode cX0_hear 162 = .ok (.iconst 0, 1) := by decide +kernel
theorem dX0_hear_163 : decode cX0_hear 163 = .ok (.ireturn, 1) := by decide +kernel
theorem dX0_isBelow_0 : decode cX0_isBelow 0 = .ok (.lload_n 0, 1) := by decide +kernel
theorem dX0_isBelow_1 : decode cX0_isBelow 1 = .ok (.lconst 0, 1) := by decide +kernel
theorem dX0_isBelow_2 : decode cX0_isBelow 2 = .ok (.lcmp, 1) := by decide +kernel
theorem dX0_isBelow_3 : decode cX0_isBelow 3 = .ok (.ifCond .lt 14, 3) := by decide +kernel
theorem dX0_isBelow_6 : decode cX0_isBelow 6 = .ok (.lload_n 0, 1) := by decide +kernel
theorem dX0_isBelow_7 : decode cX0_isBelow 7 = .ok (.iload_n 2, 1) := by decide +kernel
theorem dX0_isBelow_8 : decode cX0_isBelow 8 = .ok (.i2l, 1) := by decide +kernel
theorem dX0_isBelow_9 : decode cX0_isBelow 9 = .ok (.lcmp, 1) := by decide +kernel
theorem dX0_isBelow_10 : decode cX0_isBelow 10 = .ok (.ifCond .ge 7, 3) := by decide +kernel
theorem dX0_isBelow_13 : decode cX0_isBelow 13 = .ok (.iconst 1, 1) := by decide +kernel
theorem dX0_isBelow_14 : decode cX0_isBelow 14 = .ok (.goto 4, 3) := by decide +kernel
theorem dX0_isBelow_17 : decode cX0_isBelow 17 = .ok (.iconst 0, 1) := by decide +kernel
theorem dX0_isBelow_18 : decode cX0_isBelow 18 = .ok (.ireturn, 1) := by decide +kernel
theorem dX0_wouldGo_0 : decode cX0_wouldGo 0 = .ok (.aload_n 0, 1) := by decide +kernel
theorem dX0_wouldGo_1 : decode cX0_wouldGo 1 = .ok (.getfield 47, 3) := by decide +kernel
theorem dX0_wouldGo_4 : decode cX0_wouldGo 4 = .ok (.istore_n 2, 1) := by decide +kernel
theorem dX0_wouldGo_5 : decode cX0_wouldGo 5 = .ok (.aload_n 0, 1) := by decide +kernel
theorem dX0_wouldGo_6 : decode cX0_wouldGo 6 = .ok (.getfield 51, 3) := by decide +kernel
theorem dX0_wouldGo_9 : decode cX0_wouldGo 9 = .ok (.istore_n 3, 1) := by decide +kernel
theorem dX0_wouldGo_10 : decode cX0_wouldGo 10 = .ok (.aload_n 1, 1) := by decide +kernel
theorem dX0_wouldGo_11 : decode cX0_wouldGo 11 = .ok (.iload_n 2, 1) := by decide +kernel
theorem dX0_wouldGo_12 : decode cX0_wouldGo 12 = .ok (.iload_n 3, 1) := by decide +kernel
theorem dX0_wouldGo_13 : decode cX0_wouldGo 13 = .ok (.invokevirtual 57, 3) := by decide +kernel
theorem dX0_wouldGo_16 : decode cX0_wouldGo 16 = .ok (.ifCond .ne 5, 3) := by decide +kernel
theorem dX0_wouldGo_19 : decode cX0_wouldGo 19 = .ok (.iconst 0, 1) := by decide +kernel
theorem dX0_wouldGo_20 : decode cX0_wouldGo 20 = .ok (.ireturn, 1) := by decide +kernel
theorem dX0_wouldGo_21 : decode cX0_wouldGo 21 = .ok (.iconst 0, 1) := by decide +kernel
theorem dX0_wouldGo_22 : decode cX0_wouldGo 22 = .ok (.istore 4, 2) := by decide +kernel
theorem dX0_wouldGo_24 : decode cX0_wouldGo 24 = .ok (.iload 4, 2) := by decide +kernel
theorem dX0_wouldGo_26 : decode cX0_wouldGo 26 = .ok (.aload_n 0, 1) := by decide +kernel
theorem dX0_wouldGo_27 : decode cX0_wouldGo 27 = .ok (.getfield 54, 3) := by decide +kernel
theorem dX0_wouldGo_30 : decode cX0_wouldGo 30 = .ok (.if_icmp .ge 65, 3) := by decide +kernel
theorem dX0_wouldGo_33 : decode cX0_wouldGo 33 = .ok (.iload 4, 2) := by decide +kernel
theorem dX0_wouldGo_35 : decode cX0_wouldGo 35 = .ok (.bipush 8, 2) := by decide +kernel
theorem dX0_wouldGo_37 : decode cX0_wouldGo 37 = .ok (.if_icmp .ge 58, 3) := by decide +kernel
theorem dX0_wouldGo_40 : decode cX0_wouldGo 40 = .ok (.aload_n 0, 1) := by decide +kernel
theorem dX0_wouldGo_41 : decode cX0_wouldGo 41 = .ok (.getfield 28, 3) := by decide +kernel
theorem dX0_wouldGo_44 : decode cX0_wouldGo 44 = .ok (.iload 4, 2) := by decide +kernel
theorem dX0_wouldGo_46 : decode cX0_wouldGo 46 = .ok (.iaload, 1) := by decide +kernel
theorem dX0_wouldGo_47 : decode cX0_wouldGo 47 = .ok (.iconst 2, 1) := by decide +kernel
theorem dX0_wouldGo_48 : decode cX0_wouldGo 48 = .ok (.if_icmp .ne 7, 3) := by decide +kernel
theorem dX0_wouldGo_51 : decode cX0_wouldGo 51 = .ok (.iload_n 3, 1) := by decide +kernel
theorem dX0_wouldGo_52 : decode cX0_wouldGo 52 = .ok (.goto 16, 3) := by decide +kernel
theorem dX0_wouldGo_55 : decode cX0_wouldGo 55 = .ok (.aload_n 1, 1) := by decide +kernel
theorem dX0_wouldGo_56 : decode cX0_wouldGo 56 = .ok (.iload_n 2, 1) := by decide +kernel
theorem dX0_wouldGo_57 : decode cX0_wouldGo 57 = .ok (.iload_n 3, 1) := by decide +kernel
theorem dX0_wouldGo_58 : decode cX0_wouldGo 58 = .ok (.aload_n 0, 1) := by decide +kernel
theorem dX0_wouldGo_59 : decode cX0_wouldGo 59 = .ok (.getfield 28, 3) := by decide +kernel
theorem dX0_wouldGo_62 : decode cX0_wouldGo 62 = .ok (.iload 4, 2) := by decide +kernel
theorem dX0_wouldGo_64 : decode cX0_wouldGo 64 = .ok (.iaload, 1) := by decide +kernel
theorem dX0_wouldGo_65 : decode cX0_wouldGo 65 = .ok (.invokevirtual 61, 3) := by decide +kernel
theorem dX0_wouldGo_68 : decode cX0_wouldGo 68 = .ok (.istore 5, 2) := by decide +kernel
theorem dX0_wouldGo_70 : decode cX0_wouldGo 70 = .ok (.iload 5, 2) := by decide +kernel
theorem dX0_wouldGo_72 : decode cX0_wouldGo 72 = .ok (.aload_n 0, 1) := by decide +kernel
theorem dX0_wouldGo_73 : decode cX0_wouldGo 73 = .ok (.getfield 31, 3) := by decide +kernel
theorem dX0_wouldGo_76 : decode cX0_wouldGo 76 = .ok (.iload 4, 2) := by decide +kernel
theorem dX0_wouldGo_78 : decode cX0_wouldGo 78 = .ok (.iaload, 1) := by decide +kernel
theorem dX0_wouldGo_79 : decode cX0_wouldGo 79 = .ok (.if_icmp .eq 5, 3) := by decide +kernel
theorem dX0_wouldGo_82 : decode cX0_wouldGo 82 = .ok (.iconst 0, 1) := by decide +kernel
theorem dX0_wouldGo_83 : decode cX0_wouldGo 83 = .ok (.ireturn, 1) := by decide +kernel
theorem dX0_wouldGo_84 : decode cX0_wouldGo 84 = .ok (.iload_n 2, 1) := by decide +kernel
theorem dX0_wouldGo_85 : decode cX0_wouldGo 85 = .ok (.istore_n 3, 1) := by decide +kernel
theorem dX0_wouldGo_86 : decode cX0_wouldGo 86 = .ok (.iload 5, 2) := by decide +kernel
theorem dX0_wouldGo_88 : decode cX0_wouldGo 88 = .ok (.istore_n 2, 1) := by decide +kernel
theorem dX0_wouldGo_89 : decode cX0_wouldGo 89 = .ok (.iinc 4 1, 3) := by decide +kernel
theorem dX0_wouldGo_92 : decode cX0_wouldGo 92 = .ok (.goto (-68), 3) := by decide +kernel
theorem dX0_wouldGo_95 : decode cX0_wouldGo 95 = .ok (.aload_n 0, 1) := by decide +kernel
theorem dX0_wouldGo_96 : decode cX0_wouldGo 96 = .ok (.iload_n 2, 1) := by decide +kernel
theorem dX0_wouldGo_97 : decode cX0_wouldGo 97 = .ok (.putfield 65, 3) := by decide +kernel
theorem dX0_wouldGo_100 : decode cX0_wouldGo 100 = .ok (.aload_n 0, 1) := by decide +kernel
theorem dX0_wouldGo_101 : decode cX0_wouldGo 101 = .ok (.iload_n 3, 1) := by decide +kernel
theorem dX0_wouldGo_102 : decode cX0_wouldGo 102 = .ok (.putfield 68, 3) := by decide +kernel
theorem dX0_wouldGo_105 : decode cX0_wouldGo 105 = .ok (.iconst 1, 1) := by decide +kernel
theorem dX0_wouldGo_106 : decode cX0_wouldGo 106 = .ok (.ireturn, 1) := by decide +kernel
theorem dX0_goThroughAll_0 : decode cX0_goThroughAll 0 = .ok (.aload_n 0, 1) := by decide +kernel
theorem dX0_goThroughAll_1 : decode cX0_goThroughAll 1 = .ok (.iconst 0, 1) := by decide +kernel
theorem dX0_goThroughAll_2 : decode cX0_goThroughAll 2 = .ok (.putfield 71, 3) := by decide +kernel
theorem dX0_goThroughAll_5 : decode cX0_goThroughAll 5 = .ok (.iconst 0, 1) := by decide +kernel
theorem dX0_goThroughAll_6 : decode cX0_goThroughAll 6 = .ok (.istore_n 2, 1) := by decide +kernel
theorem dX0_goThroughAll_7 : decode cX0_goThroughAll 7 = .ok (.iload_n 2, 1) := by decide +kernel
theorem dX0_goThroughAll_8 : decode cX0_goThroughAll 8 = .ok (.aload_n 0, 1) := by decide +kernel
theorem dX0_goThroughAll_9 : decode cX0_goThroughAll 9 = .ok (.getfield 34, 3) := by decide +kernel
theorem dX0_goThroughAll_12 : decode cX0_goThroughAll 12 = .ok (.arraylength, 1) := by decide +kernel
theorem dX0_goThroughAll_13 : decode cX0_goThroughAll 13 = .ok (.if_icmp .ge 16, 3) := by decide +kernel
theorem dX0_goThroughAll_16 : decode cX0_goThroughAll 16 = .ok (.aload_n 0, 1) := by decide +kernel
theorem dX0_goThroughAll_17 : decode cX0_goThroughAll 17 = .ok (.getfield 34, 3) := by decide +kernel
theorem dX0_goThroughAll_20 : decode cX0_goThroughAll 20 = .ok (.iload_n 2, 1) := by decide +kernel
theorem dX0_goThroughAll_21 : decode cX0_goThroughAll 21 = .ok (.iconst 0, 1) := by decide +kernel
theorem dX0_goThroughAll_22 : decode cX0_goThroughAll 22 = .ok (.iastore, 1) := by decide +kernel
theorem dX0_goThroughAll_23 : decode cX0_goThroughAll 23 = .ok (.iinc 2 1, 3) := by decide +kernel
theorem dX0_goThroughAll_26 : decode cX0_goThroughAll 26 = .ok (.goto (-19), 3) := by decide +kernel
theorem dX0_goThroughAll_29 : decode cX0_goThroughAll 29 = .ok (.aload_n 0, 1) := by decide +kernel
theorem dX0_goThroughAll_30 : decode cX0_goThroughAll 30 = .ok (.getfield 12, 3) := by decide +kernel
theorem dX0_goThroughAll_33 : decode cX0_goThroughAll 33 = .ok (.iload_n 1, 1) := by decide +kernel
theorem dX0_goThroughAll_34 : decode cX0_goThroughAll 34 = .ok (.invokevirtual 74, 3) := by decide +kernel
theorem dX0_goThroughAll_37 : decode cX0_goThroughAll 37 = .ok (.aload_n 0, 1) := by decide +kernel
theorem dX0_goThroughAll_38 : decode cX0_goThroughAll 38 = .ok (.invokevirtual 78, 3) := by decide +kernel
theorem dX0_goThroughAll_41 : decode cX0_goThroughAll 41 = .ok (.aload_n 0, 1) := by decide +kernel
theorem dX0_goThroughAll_42 : decode cX0_goThroughAll 42 = .ok (.iconst 0, 1) := by decide +kernel
theorem dX0_goThroughAll_43 : decode cX0_goThroughAll 43 = .ok (.iconst 0, 1) := by decide +kernel
theorem dX0_goThroughAll_44 : decode cX0_goThroughAll 44 = .ok (.iload_n 1, 1) := by decide +kernel
theorem dX0_goThroughAll_45 : decode cX0_goThroughAll 45 = .ok (.iconst 3, 1) := by decide +kernel
theorem dX0_goThroughAll_46 : decode cX0_goThroughAll 46 = .ok (.isub, 1) := by decide +kernel
theorem dX0_goThroughAll_47 : decode cX0_goThroughAll 47 = .ok (.invokevirtual 81, 3) := by decide +kernel
theorem dX0_goThroughAll_50 : decode cX0_goThroughAll 50 = .ok (.return_, 1) := by decide +kernel
theorem dX0_listPairs_0 : decode cX0_listPairs 0 = .ok (.aload_n 0, 1) := by decide +kernel
theorem dX0_listPairs_1 : decode cX0_listPairs 1 = .ok (.iconst 0, 1) := by decide +kernel
theorem dX0_listPairs_2 : decode cX0_listPairs 2 = .ok (.putfield 85, 3) := by decide +kernel
theorem dX0_listPairs_5 : decode cX0_listPairs 5 = .ok (.iconst 0, 1) := by decide +kernel
theorem dX0_listPairs_6 : decode cX0_listPairs 6 = .ok (.istore_n 1, 1) := by decide +kernel
theorem dX0_listPairs_7 : decode cX0_listPairs 7 = .ok (.iload_n 1, 1) := by decide +kernel
theorem dX0_listPairs_8 : decode cX0_listPairs 8 = .ok (.aload_n 0, 1) := by decide +kernel
theorem dX0_listPairs_9 : decode cX0_listPairs 9 = .ok (.getfield 12, 3) := by decide +kernel
theorem dX0_listPairs_12 : decode cX0_listPairs 12 = .ok (.getfield 88, 3) := by decide +kernel
theorem dX0_listPairs_15 : decode cX0_listPairs 15 = .ok (.if_icmp .ge 81, 3) := by decide +kernel
theorem dX0_listPairs_18 : decode cX0_listPairs 18 = .ok (.iload_n 1, 1) := by decide +kernel
theorem dX0_listPairs_19 : decode cX0_listPairs 19 = .ok (.iconst 2, 1) := by decide +kernel
theorem dX0_listPairs_20 : decode cX0_listPairs 20 = .ok (.iadd, 1) := by decide +kernel
theorem dX0_listPairs_21 : decode cX0_listPairs 21 = .ok (.istore_n 2, 1) := by decide +kernel
theorem dX0_listPairs_22 : decode cX0_listPairs 22 = .ok (.iload_n 2, 1) := by decide +kernel
theorem dX0_listPairs_23 : decode cX0_listPairs 23 = .ok (.aload_n 0, 1) := by decide +kernel
theorem dX0_listPairs_24 : decode cX0_listPairs 24 = .ok (.getfield 12, 3) := by decide +kernel
theorem dX0_listPairs_27 : decode cX0_listPairs 27 = .ok (.getfield 88, 3) := by decide +kernel
theorem dX0_listPairs_30 : decode cX0_listPairs 30 = .ok (.if_icmp .ge 60, 3) := by decide +kernel
theorem dX0_listPairs_33 : decode cX0_listPairs 33 = .ok (.aload_n 0, 1) := by decide +kernel
theorem dX0_listPairs_34 : decode cX0_listPairs 34 = .ok (.getfield 12, 3) := by decide +kernel
theorem dX0_listPairs_37 : decode cX0_listPairs 37 = .ok (.iload_n 1, 1) := by decide +kernel
theorem dX0_listPairs_38 : decode cX0_listPairs 38 = .ok (.iload_n 2, 1) := by decide +kernel
theorem dX0_listPairs_39 : decode cX0_listPairs 39 = .ok (.invokevirtual 91, 3) := by decide +kernel
theorem dX0_listPairs_42 : decode cX0_listPairs 42 = .ok (.ifCond .ne 42, 3) := by decide +kernel
theorem dX0_listPairs_45 : decode cX0_listPairs 45 = .ok (.aload_n 0, 1) := by decide +kernel
theorem dX0_listPairs_46 : decode cX0_listPairs 46 = .ok (.getfield 85, 3) := by decide +kernel
theorem dX0_listPairs_49 : decode cX0_listPairs 49 = .ok (.bipush 20, 2) := by decide +kernel
theorem dX0_listPairs_51 : decode cX0_listPairs 51 = .ok (.if_icmp .ge 33, 3) := by decide +kernel
theorem dX0_listPairs_54 : decode cX0_listPairs 54 = .ok (.aload_n 0, 1) := by decide +kernel
theorem dX0_listPairs_55 : decode cX0_listPairs 55 = .ok (.getfield 18, 3) := by decide +kernel
theorem dX0_listPairs_58 : decode cX0_listPairs 58 = .ok (.aload_n 0, 1) := by decide +kernel
theorem dX0_listPairs_59 : decode cX0_listPairs 59 = .ok (.getfield 85, 3) := by decide +kernel
theorem dX0_listPairs_62 : decode cX0_listPairs 62 = .ok (.iload_n 1, 1) := by decide +kernel
theorem dX0_listPairs_63 : decode cX0_listPairs 63 = .ok (.iastore, 1) := by decide +kernel
theorem dX0_listPairs_64 : decode cX0_listPairs 64 = .ok (.aload_n 0, 1) := by decide +kernel
theorem dX0_listPairs_65 : decode cX0_listPairs 65 = .ok (.getfield 22, 3) := by decide +kernel
theorem dX0_listPairs_68 : decode cX0_listPairs 68 = .ok (.aload_n 0, 1) := by decide +kernel
theorem dX0_listPairs_69 : decode cX0_listPairs 69 = .ok (.getfield 85, 3) := by decide +kernel
theorem dX0_listPairs_72 : decode cX0_listPairs 72 = .ok (.iload_n 2, 1) := by decide +kernel
theorem dX0_listPairs_73 : decode cX0_listPairs 73 = .ok (.iastore, 1) := by decide +kernel
theorem dX0_listPairs_74 : decode cX0_listPairs 74 = .ok (.aload_n 0, 1) := by decide +kernel
theorem dX0_listPairs_75 : decode cX0_listPairs 75 = .ok (.dup, 1) := by decide +kernel
theorem dX0_listPairs_76 : decode cX0_listPairs 76 = .ok (.getfield 85, 3) := by decide +kernel
theorem dX0_listPairs_79 : decode cX0_listPairs 79 = .ok (.iconst 1, 1) := by decide +kernel
theorem dX0_listPairs_80 : decode cX0_listPairs 80 = .ok (.iadd, 1) := by decide +kernel
theorem dX0_listPairs_81 : decode cX0_listPairs 81 = .ok (.putfield 85, 3) := by decide +kernel
theorem dX0_listPairs_84 : decode cX0_listPairs 84 = .ok (.iinc 2 1, 3) := by decide +kernel
theorem dX0_listPairs_87 : decode cX0_listPairs 87 = .ok (.goto (-65), 3) := by decide +kernel
theorem dX0_listPairs_90 : decode cX0_listPairs 90 = .ok (.iinc 1 1, 3) := by decide +kernel
theorem dX0_listPairs_93 : decode cX0_listPairs 93 = .ok (.goto (-86), 3) := by decide +kernel
theorem dX0_listPairs_96 : decode cX0_listPairs 96 = .ok (.iconst 0, 1) := by decide +kernel
theorem dX0_listPairs_97 : decode cX0_listPairs 97 = .ok (.istore_n 1, 1) := by decide +kernel
theorem dX0_listPairs_98 : decode cX0_listPairs 98 = .ok (.iload_n 1, 1) := by decide +kernel
theorem dX0_listPairs_99 : decode cX0_listPairs 99 = .ok (.aload_n 0, 1) := by decide +kernel
theorem dX0_listPairs_100 : decode cX0_listPairs 100 = .ok (.getfield 85, 3) := by decide +kernel
theorem dX0_listPairs_103 : decode cX0_listPairs 103 = .ok (.if_icmp .ge 20, 3) := by decide +kernel
theorem dX0_listPairs_106 : decode cX0_listPairs 106 = .ok (.aload_n 0, 1) := by decide +kernel
theorem dX0_listPairs_107 : decode cX0_listPairs 107 = .ok (.getfield 25, 3) := by decide +kernel
theorem dX0_listPairs_110 : decode cX0_listPairs 110 = .ok (.iload_n 1, 1) := by decide +kernel
theorem dX0_listPairs_111 : decode cX0_listPairs 111 = .ok (.aload_n 0, 1) := by decide +kernel
theorem dX0_listPairs_112 : decode cX0_listPairs 112 = .ok (.iload_n 1, 1) := by decide +kernel
theorem dX0_listPairs_113 : decode cX0_listPairs 113 = .ok (.invokevirtual 94, 3) := by decide +kernel
theorem dX0_listPairs_116 : decode cX0_listPairs 116 = .ok (.iastore, 1) := by decide +kernel
theorem dX0_listPairs_117 : decode cX0_listPairs 117 = .ok (.iinc 1 1, 3) := by decide +kernel
theorem dX0_listPairs_120 : decode cX0_listPairs 120 = .ok (.goto (-22), 3) := by decide +kernel
theorem dX0_listPairs_123 : decode cX0_listPairs 123 = .ok (.return_, 1) := by decide +kernel
theorem dX0_crossedBy_0 : decode cX0_crossedBy 0 = .ok (.iconst 0, 1) := by decide +kernel
theorem dX0_crossedBy_1 : decode cX0_crossedBy 1 = .ok (.istore_n 2, 1) := by decide +kernel
theorem dX0_crossedBy_2 : decode cX0_crossedBy 2 = .ok (.iconst 0, 1) := by decide +kernel
theorem dX0_crossedBy_3 : decode cX0_crossedBy 3 = .ok (.istore_n 3, 1) := by decide +kernel
theorem dX0_crossedBy_4 : decode cX0_crossedBy 4 = .ok (.iload_n 3, 1) := by decide +kernel
theorem dX0_crossedBy_5 : decode cX0_crossedBy 5 = .ok (.aload_n 0, 1) := by decide +kernel
theorem dX0_crossedBy_6 : decode cX0_crossedBy 6 = .ok (.getfield 85, 3) := by decide +kernel
theorem dX0_crossedBy_9 : decode cX0_crossedBy 9 = .ok (.if_icmp .ge 168, 3) := by decide +kernel
theorem dX0_crossedBy_12 : decode cX0_crossedBy 12 = .ok (.aload_n 0, 1) := by decide +kernel
theorem dX0_crossedBy_13 : decode cX0_crossedBy 13 = .ok (.getfield 18, 3) := by decide +kernel
theorem dX0_crossedBy_16 : decode cX0_crossedBy 16 = .ok (.iload_n 3, 1) := by decide +kernel
theorem dX0_crossedBy_17 : decode cX0_crossedBy 17 = .ok (.iaload, 1) := by decide +kernel
theorem dX0_crossedBy_18 : decode cX0_crossedBy 18 = .ok (.aload_n 0, 1) := by decide +kernel
theorem dX0_crossedBy_19 : decode cX0_crossedBy 19 = .ok (.getfield 18, 3) := by decide +kernel
theorem dX0_crossedBy_22 : decode cX0_crossedBy 22 = .ok (.iload_n 1, 1) := by decide +kernel
theorem dX0_crossedBy_23 : decode cX0_crossedBy 23 = .ok (.iaload, 1) := by decide +kernel
theorem dX0_crossedBy_24 : decode cX0_crossedBy 24 = .ok (.if_icmp .le 22, 3) := by decide +kernel
theorem dX0_crossedBy_27 : decode cX0_crossedBy 27 = .ok (.aload_n 0, 1) := by decide +kernel
theorem dX0_crossedBy_28 : decode cX0_crossedBy 28 = .ok (.getfield 18, 3) := by decide +kernel
theorem dX0_crossedBy_31 : decode cX0_crossedBy 31 = .ok (.iload_n 3, 1) := by decide +kernel
theorem dX0_crossedBy_32 : decode cX0_crossedBy 32 = .ok (.iaload, 1) := by decide +kernel
theorem dX0_crossedBy_33 : decode cX0_crossedBy 33 = .ok (.aload_n 0, 1) := by decide +kernel
theorem dX0_crossedBy_34 : decode cX0_crossedBy 34 = .ok (.getfield 22, 3) := by decide +kernel
theorem dX0_crossedBy_37 : decode cX0_crossedBy 37 = .ok (.iload_n 1, 1) := by decide +kernel
theorem dX0_crossedBy_38 : decode cX0_crossedBy 38 = .ok (.iaload, 1) := by decide +kernel
theorem dX0_crossedBy_39 : decode cX0_crossedBy 39 = .ok (.if_icmp .ge 7, 3) := by decide +kernel
theorem dX0_crossedBy_42 : decode cX0_crossedBy 42 = .ok (.iconst 1, 1) := by decide +kernel
theorem dX0_crossedBy_43 : decode cX0_crossedBy 43 = .ok (.goto 4, 3) := by decide +kernel
theorem dX0_crossedBy_46 : decode cX0_crossedBy 46 = .ok (.iconst 0, 1) := by decide +kernel
theorem dX0_crossedBy_47 : decode cX0_crossedBy 47 = .ok (.istore 4, 2) := by decide +kernel
theorem dX0_crossedBy_49 : decode cX0_crossedBy 49 = .ok (.aload_n 0, 1) := by decide +kernel
theorem dX0_crossedBy_50 : decode cX0_crossedBy 50 = .ok (.getfield 22, 3) := by decide +kernel
theorem dX0_crossedBy_53 : decode cX0_crossedBy 53 = .ok (.iload_n 3, 1) := by decide +kernel
theorem dX0_crossedBy_54 : decode cX0_crossedBy 54 = .ok (.iaload, 1) := by decide +kernel
theorem dX0_crossedBy_55 : decode cX0_crossedBy 55 = .ok (.aload_n 0, 1) := by decide +kernel
theorem dX0_crossedBy_56 : decode cX0_crossedBy 56 = .ok (.getfield 18, 3) := by decide +kernel
theorem dX0_crossedBy_59 : decode cX0_crossedBy 59 = .ok (.iload_n 1, 1) := by decide +kernel
theorem dX0_crossedBy_60 : decode cX0_crossedBy 60 = .ok (.iaload, 1) := by decide +kernel
theorem dX0_crossedBy_61 : decode cX0_crossedBy 61 = .ok (.if_icmp .le 22, 3) := by decide +kernel
theorem dX0_crossedBy_64 : decode cX0_crossedBy 64 = .ok (.aload_n 0, 1) := by decide +kernel
theorem dX0_crossedBy_65 : decode cX0_crossedBy 65 = .ok (.getfield 22, 3) := by decide +kernel
theorem dX0_crossedBy_68 : decode cX0_crossedBy 68 = .ok (.iload_n 3, 1) := by decide +kernel
theorem dX0_crossedBy_69 : decode cX0_crossedBy 69 = .ok (.iaload, 1) := by decide +kernel
theorem dX0_crossedBy_70 : decode cX0_crossedBy 70 = .ok (.aload_n 0, 1) := by decide +kernel
theorem dX0_crossedBy_71 : decode cX0_crossedBy 71 = .ok (.getfield 22, 3) := by decide +kernel
theorem dX0_crossedBy_74 : decode cX0_crossedBy 74 = .ok (.iload_n 1, 1) := by decide +kernel
theorem dX0_crossedBy_75 : decode cX0_crossedBy 75 = .ok (.iaload, 1) := by decide +kernel
theorem dX0_crossedBy_76 : decode cX0_crossedBy 76 = .ok (.if_icmp .ge 7, 3) := by decide +kernel
theorem dX0_crossedBy_79 : decode cX0_crossedBy 79 = .ok (.iconst 1, 1) := by decide +kernel
theorem dX0_crossedBy_80 : decode cX0_crossedBy 80 = .ok (.goto 4, 3) := by decide +kernel
theorem dX0_crossedBy_83 : decode cX0_crossedBy 83 = .ok (.iconst 0, 1) := by decide +kernel
theorem dX0_crossedBy_84 : decode cX0_crossedBy 84 = .ok (.istore 5, 2) := by decide +kernel
theorem dX0_crossedBy_86 : decode cX0_crossedBy 86 = .ok (.aload_n 0, 1) := by decide +kernel
theorem dX0_crossedBy_87 : decode cX0_crossedBy 87 = .ok (.getfield 18, 3) := by decide +kernel
theorem dX0_crossedBy_90 : decode cX0_crossedBy 90 = .ok (.iload_n 3, 1) := by decide +kernel
theorem dX0_crossedBy_91 : decode cX0_crossedBy 91 = .ok (.iaload, 1) := by decide +kernel
theorem dX0_crossedBy_92 : decode cX0_crossedBy 92 = .ok (.aload_n 0, 1) := by decide +kernel
theorem dX0_crossedBy_93 : decode cX0_crossedBy 93 = .ok (.getfield 18, 3) := by decide +kernel
theorem dX0_crossedBy_96 : decode cX0_crossedBy 96 = .ok (.iload_n 1, 1) := by decide +kernel
theorem dX0_crossedBy_97 : decode cX0_crossedBy 97 = .ok (.iaload, 1) := by decide +kernel
theorem dX0_crossedBy_98 : decode cX0_crossedBy 98 = .ok (.if_icmp .eq 48, 3) := by decide +kernel
theorem dX0_crossedBy_101 : decode cX0_crossedBy 101 = .ok (.aload_n 0, 1) := by decide +kernel
theorem dX0_crossedBy_102 : decode cX0_crossedBy 102 = .ok (.getfield 18, 3) := by decide +kernel
theorem dX0_crossedBy_105 : decode cX0_crossedBy 105 = .ok (.iload_n 3, 1) := by decide +kernel
theorem dX0_crossedBy_106 : decode cX0_crossedBy 106 = .ok (.iaload, 1) := by decide +kernel
theorem dX0_crossedBy_107 : decode cX0_crossedBy 107 = .ok (.aload_n 0, 1) := by decide +kernel
theorem dX0_crossedBy_108 : decode cX0_crossedBy 108 = .ok (.getfield 22, 3) := by decide +kernel
theorem dX0_crossedBy_111 : decode cX0_crossedBy 111 = .ok (.iload_n 1, 1) := by decide +kernel
theorem dX0_crossedBy_112 : decode cX0_crossedBy 112 = .ok (.iaload, 1) := by decide +kernel
theorem dX0_crossedBy_113 : decode cX0_crossedBy 113 = .ok (.if_icmp .eq 33, 3) := by decide +kernel
theorem dX0_crossedBy_116 : decode cX0_crossedBy 116 = .ok (.aload_n 0, 1) := by decide +kernel
theorem dX0_crossedBy_117 : decode cX0_crossedBy 117 = .ok (.getfield 22, 3) := by decide +kernel
theorem dX0_crossedBy_120 : decode cX0_crossedBy 120 = .ok (.iload_n 3, 1) := by decide +kernel
theorem dX0_crossedBy_121 : decode cX0_crossedBy 121 = .ok (.iaload, 1) := by decide +kernel
theorem dX0_crossedBy_122 : decode cX0_crossedBy 122 = .ok (.aload_n 0, 1) := by decide +kernel
theorem dX0_crossedBy_123 : decode cX0_crossedBy 123 = .ok (.getfield 18, 3) := by decide +kernel
theorem dX0_crossedBy_126 : decode cX0_crossedBy 126 = .ok (.iload_n 1, 1) := by decide +kernel
theorem dX0_crossedBy_127 : decode cX0_crossedBy 127 = .ok (.iaload, 1) := by decide +kernel
theorem dX0_crossedBy_128 : decode cX0_crossedBy 128 = .ok (.if_icmp .eq 18, 3) := by decide +kernel
theorem dX0_crossedBy_131 : decode cX0_crossedBy 131 = .ok (.aload_n 0, 1) := by decide +kernel
theorem dX0_crossedBy_132 : decode cX0_crossedBy 132 = .ok (.getfield 22, 3) := by decide +kernel
theorem dX0_crossedBy_135 : decode cX0_crossedBy 135 = .ok (.iload_n 3, 1) := by decide +kernel
theorem dX0_crossedBy_136 : decode cX0_crossedBy 136 = .ok (.iaload, 1) := by decide +kernel
theorem dX0_crossedBy_137 : decode cX0_crossedBy 137 = .ok (.aload_n 0, 1) := by decide +kernel
theorem dX0_crossedBy_138 : decode cX0_crossedBy 138 = .ok (.getfield 22, 3) := by decide +kernel
theorem dX0_crossedBy_141 : decode cX0_crossedBy 141 = .ok (.iload_n 1, 1) := by decide +kernel
theorem dX0_crossedBy_142 : decode cX0_crossedBy 142 = .ok (.iaload, 1) := by decide +kernel
theorem dX0_crossedBy_143 : decode cX0_crossedBy 143 = .ok (.if_icmp .ne 7, 3) := by decide +kernel
theorem dX0_crossedBy_146 : decode cX0_crossedBy 146 = .ok (.iconst 1, 1) := by decide +kernel
theorem dX0_crossedBy_147 : decode cX0_crossedBy 147 = .ok (.goto 4, 3) := by decide +kernel
theorem dX0_crossedBy_150 : decode cX0_crossedBy 150 = .ok (.iconst 0, 1) := by decide +kernel
theorem dX0_crossedBy_151 : decode cX0_crossedBy 151 = .ok (.istore 6, 2) := by decide +kernel
theorem dX0_crossedBy_153 : decode cX0_crossedBy 153 = .ok (.iload 6, 2) := by decide +kernel
theorem dX0_crossedBy_155 : decode cX0_crossedBy 155 = .ok (.ifCond .ne 16, 3) := by decide +kernel
theorem dX0_crossedBy_158 : decode cX0_crossedBy 158 = .ok (.iload 4, 2) := by decide +kernel
theorem dX0_crossedBy_160 : decode cX0_crossedBy 160 = .ok (.iload 5, 2) := by decide +kernel
theorem dX0_crossedBy_162 : decode cX0_crossedBy 162 = .ok (.if_icmp .eq 9, 3) := by decide +kernel
theorem dX0_crossedBy_165 : decode cX0_crossedBy 165 = .ok (.iload_n 2, 1) := by decide +kernel
theorem dX0_crossedBy_166 : decode cX0_crossedBy 166 = .ok (.iconst 1, 1) := by decide +kernel
theorem dX0_crossedBy_167 : decode cX0_crossedBy 167 = .ok (.iload_n 3, 1) := by decide +kernel
theorem dX0_crossedBy_168 : decode cX0_crossedBy 168 = .ok (.ishl, 1) := by decide +kernel
theorem dX0_crossedBy_169 : decode cX0_crossedBy 169 = .ok (.ior, 1) := by decide +kernel
theorem dX0_crossedBy_170 : decode cX0_crossedBy 170 = .ok (.istore_n 2, 1) := by decide +kernel
theorem dX0_crossedBy_171 : decode cX0_crossedBy 171 = .ok (.iinc 3 1, 3) := by decide +kernel
theorem dX0_crossedBy_174 : decode cX0_crossedBy 174 = .ok (.goto (-170), 3) := by decide +kernel
theorem dX0_crossedBy_177 : decode cX0_crossedBy 177 = .ok (.iload_n 2, 1) := by decide +kernel
theorem dX0_crossedBy_178 : decode cX0_crossedBy 178 = .ok (.ireturn, 1) := by decide +kernel
theorem dX0_choose_0 : decode cX0_choose 0 = .ok (.iload_n 3, 1) := by decide +kernel
theorem dX0_choose_1 : decode cX0_choose 1 = .ok (.ifCond .gt 8, 3) := by decide +kernel
theorem dX0_choose_4 : decode cX0_choose 4 = .ok (.aload_n 0, 1) := by decide +kernel
theorem dX0_choose_5 : decode cX0_choose 5 = .ok (.invokevirtual 98, 3) := by decide +kernel
theorem dX0_choose_8 : decode cX0_choose 8 = .ok (.return_, 1) := by decide +kernel
theorem dX0_choose_9 : decode cX0_choose 9 = .ok (.iload_n 1, 1) := by decide +kernel
theorem dX0_choose_10 : decode cX0_choose 10 = .ok (.istore 4, 2) := by decide +kernel
theorem dX0_choose_12 : decode cX0_choose 12 = .ok (.iload 4, 2) := by decide +kernel
theorem dX0_choose_14 : decode cX0_choose 14 = .ok (.aload_n 0, 1) := by decide +kernel
theorem dX0_choose_15 : decode cX0_choose 15 = .ok (.getfield 85, 3) := by decide +kernel
theorem dX0_choose_18 : decode cX0_choose 18 = .ok (.if_icmp .ge 87, 3) := by decide +kernel
theorem dX0_choose_21 : decode cX0_choose 21 = .ok (.iload 4, 2) := by decide +kernel
theorem dX0_choose_23 : decode cX0_choose 23 = .ok (.bipush 20, 2) := by decide +kernel
theorem dX0_choose_25 : decode cX0_choose 25 = .ok (.if_icmp .ge 80, 3) := by decide +kernel
theorem dX0_choose_28 : decode cX0_choose 28 = .ok (.iload_n 2, 1) := by decide +kernel
theorem dX0_choose_29 : decode cX0_choose 29 = .ok (.iload 4, 2) := by decide +kernel
theorem dX0_choose_31 : decode cX0_choose 31 = .ok (.ishr, 1) := by decide +kernel
theorem dX0_choose_32 : decode cX0_choose 32 = .ok (.iconst 1, 1) := by decide +kernel
theorem dX0_choose_33 : decode cX0_choose 33 = .ok (.iand, 1) := by decide +kernel
theorem dX0_choose_34 : decode cX0_choose 34 = .ok (.ifCond .ne 65, 3) := by decide +kernel
theorem dX0_choose_37 : decode cX0_choose 37 = .ok (.aload_n 0, 1) := by decide +kernel
theorem dX0_choose_38 : decode cX0_choose 38 = .ok (.getfield 12, 3) := by decide +kernel
theorem dX0_choose_41 : decode cX0_choose 41 = .ok (.aload_n 0, 1) := by decide +kernel
theorem dX0_choose_42 : decode cX0_choose 42 = .ok (.getfield 18, 3) := by decide +kernel
theorem dX0_choose_45 : decode cX0_choose 45 = .ok (.iload 4, 2) := by decide +kernel
theorem dX0_choose_47 : decode cX0_choose 47 = .ok (.iaload, 1) := by decide +kernel
theorem dX0_choose_48 : decode cX0_choose 48 = .ok (.aload_n 0, 1) := by decide +kernel
theorem dX0_choose_49 : decode cX0_choose 49 = .ok (.getfield 22, 3) := by decide +kernel
theorem dX0_choose_52 : decode cX0_choose 52 = .ok (.iload 4, 2) := by decide +kernel
theorem dX0_choose_54 : decode cX0_choose 54 = .ok (.iaload, 1) := by decide +kernel
theorem dX0_choose_55 : decode cX0_choose 55 = .ok (.invokevirtual 101, 3) := by decide +kernel
theorem dX0_choose_58 : decode cX0_choose 58 = .ok (.aload_n 0, 1) := by decide +kernel
theorem dX0_choose_59 : decode cX0_choose 59 = .ok (.iload 4, 2) := by decide +kernel
theorem dX0_choose_61 : decode cX0_choose 61 = .ok (.iconst 1, 1) := by decide +kernel
theorem dX0_choose_62 : decode cX0_choose 62 = .ok (.iadd, 1) := by decide +kernel
theorem dX0_choose_63 : decode cX0_choose 63 = .ok (.iload_n 2, 1) := by decide +kernel
theorem dX0_choose_64 : decode cX0_choose 64 = .ok (.aload_n 0, 1) := by decide +kernel
theorem dX0_choose_65 : decode cX0_choose 65 = .ok (.getfield 25, 3) := by decide +kernel
theorem dX0_choose_68 : decode cX0_choose 68 = .ok (.iload 4, 2) := by decide +kernel
theorem dX0_choose_70 : decode cX0_choose 70 = .ok (.iaload, 1) := by decide +kernel
theorem dX0_choose_71 : decode cX0_choose 71 = .ok (.ior, 1) := by decide +kernel
theorem dX0_choose_72 : decode cX0_choose 72 = .ok (.iload_n 3, 1) := by decide +kernel
theorem dX0_choose_73 : decode cX0_choose 73 = .ok (.iconst 1, 1) := by decide +kernel
theorem dX0_choose_74 : decode cX0_choose 74 = .ok (.isub, 1) := by decide +kernel
theorem dX0_choose_75 : decode cX0_choose 75 = .ok (.invokevirtual 81, 3) := by decide +kernel
theorem dX0_choose_78 : decode cX0_choose 78 = .ok (.aload_n 0, 1) := by decide +kernel
theorem dX0_choose_79 : decode cX0_choose 79 = .ok (.getfield 12, 3) := by decide +kernel
theorem dX0_choose_82 : decode cX0_choose 82 = .ok (.aload_n 0, 1) := by decide +kernel
theorem dX0_choose_83 : decode cX0_choose 83 = .ok (.getfield 18, 3) := by decide +kernel
theorem dX0_choose_86 : decode cX0_choose 86 = .ok (.iload 4, 2) := by decide +kernel
theorem dX0_choose_88 : decode cX0_choose 88 = .ok (.iaload, 1) := by decide +kernel
theorem dX0_choose_89 : decode cX0_choose 89 = .ok (.aload_n 0, 1) := by decide +kernel
theorem dX0_choose_90 : decode cX0_choose 90 = .ok (.getfield 22, 3) := by decide +kernel
theorem dX0_choose_93 : decode cX0_choose 93 = .ok (.iload 4, 2) := by decide +kernel
theorem dX0_choose_95 : decode cX0_choose 95 = .ok (.iaload, 1) := by decide +kernel
theorem dX0_choose_96 : decode cX0_choose 96 = .ok (.invokevirtual 105, 3) := by decide +kernel
theorem dX0_choose_99 : decode cX0_choose 99 = .ok (.iinc 4 1, 3) := by decide +kernel
theorem dX0_choose_102 : decode cX0_choose 102 = .ok (.goto (-90), 3) := by decide +kernel
theorem dX0_choose_105 : decode cX0_choose 105 = .ok (.return_, 1) := by decide +kernel
theorem dX0_weigh_0 : decode cX0_weigh 0 = .ok (.aload_n 0, 1) := by decide +kernel
theorem dX0_weigh_1 : decode cX0_weigh 1 = .ok (.aload_n 0, 1) := by decide +kernel
theorem dX0_weigh_2 : decode cX0_weigh 2 = .ok (.getfield 12, 3) := by decide +kernel
theorem dX0_weigh_5 : decode cX0_weigh 5 = .ok (.invokevirtual 108, 3) := by decide +kernel
theorem dX0_weigh_8 : decode cX0_weigh 8 = .ok (.ifCond .ne 4, 3) := by decide +kernel
theorem dX0_weigh_11 : decode cX0_weigh 11 = .ok (.return_, 1) := by decide +kernel
theorem dX0_weigh_12 : decode cX0_weigh 12 = .ok (.aload_n 0, 1) := by decide +kernel
theorem dX0_weigh_13 : decode cX0_weigh 13 = .ok (.dup, 1) := by decide +kernel
theorem dX0_weigh_14 : decode cX0_weigh 14 = .ok (.getfield 71, 3) := by decide +kernel
theorem dX0_weigh_17 : decode cX0_weigh 17 = .ok (.iconst 1, 1) := by decide +kernel
theorem dX0_weigh_18 : decode cX0_weigh 18 = .ok (.iadd, 1) := by decide +kernel
theorem dX0_weigh_19 : decode cX0_weigh 19 = .ok (.putfield 71, 3) := by decide +kernel
theorem dX0_weigh_22 : decode cX0_weigh 22 = .ok (.iconst 0, 1) := by decide +kernel
theorem dX0_weigh_23 : decode cX0_weigh 23 = .ok (.istore_n 1, 1) := by decide +kernel
theorem dX0_weigh_24 : decode cX0_weigh 24 = .ok (.iload_n 1, 1) := by decide +kernel
theorem dX0_weigh_25 : decode cX0_weigh 25 = .ok (.iconst 1, 1) := by decide +kernel
theorem dX0_weigh_26 : decode cX0_weigh 26 = .ok (.if_icmp .gt 59, 3) := by decide +kernel
theorem dX0_weigh_29 : decode cX0_weigh 29 = .ok (.aload_n 0, 1) := by decide +kernel
theorem dX0_weigh_30 : decode cX0_weigh 30 = .ok (.getfield 12, 3) := by decide +kernel
theorem dX0_weigh_33 : decode cX0_weigh 33 = .ok (.aload_n 0, 1) := by decide +kernel
theorem dX0_weigh_34 : decode cX0_weigh 34 = .ok (.getfield 65, 3) := by decide +kernel
theorem dX0_weigh_37 : decode cX0_weigh 37 = .ok (.aload_n 0, 1) := by decide +kernel
theorem dX0_weigh_38 : decode cX0_weigh 38 = .ok (.getfield 68, 3) := by decide +kernel
theorem dX0_weigh_41 : decode cX0_weigh 41 = .ok (.iload_n 1, 1) := by decide +kernel
theorem dX0_weigh_42 : decode cX0_weigh 42 = .ok (.invokevirtual 61, 3) := by decide +kernel
theorem dX0_weigh_45 : decode cX0_weigh 45 = .ok (.istore_n 2, 1) := by decide +kernel
theorem dX0_weigh_46 : decode cX0_weigh 46 = .ok (.aload_n 0, 1) := by decide +kernel
theorem dX0_weigh_47 : decode cX0_weigh 47 = .ok (.getfield 12, 3) := by decide +kernel
theorem dX0_weigh_50 : decode cX0_weigh 50 = .ok (.iload_n 2, 1) := by decide +kernel
theorem dX0_weigh_51 : decode cX0_weigh 51 = .ok (.invokevirtual 112, 3) := by decide +kernel
theorem dX0_weigh_54 : decode cX0_weigh 54 = .ok (.ifCond .eq 7, 3) := by decide +kernel
theorem dX0_weigh_57 : decode cX0_weigh 57 = .ok (.iload_n 2, 1) := by decide +kernel
theorem dX0_weigh_58 : decode cX0_weigh 58 = .ok (.goto 5, 3) := by decide +kernel
theorem dX0_weigh_61 : decode cX0_weigh 61 = .ok (.bipush 8, 2) := by decide +kernel
theorem dX0_weigh_63 : decode cX0_weigh 63 = .ok (.istore_n 3, 1) := by decide +kernel
theorem dX0_weigh_64 : decode cX0_weigh 64 = .ok (.aload_n 0, 1) := by decide +kernel
theorem dX0_weigh_65 : decode cX0_weigh 65 = .ok (.getfield 34, 3) := by decide +kernel
theorem dX0_weigh_68 : decode cX0_weigh 68 = .ok (.iload_n 1, 1) := by decide +kernel
theorem dX0_weigh_69 : decode cX0_weigh 69 = .ok (.bipush 9, 2) := by decide +kernel
theorem dX0_weigh_71 : decode cX0_weigh 71 = .ok (.imul, 1) := by decide +kernel
theorem dX0_weigh_72 : decode cX0_weigh 72 = .ok (.iload_n 3, 1) := by decide +kernel
theorem dX0_weigh_73 : decode cX0_weigh 73 = .ok (.iadd, 1) := by decide +kernel
theorem dX0_weigh_74 : decode cX0_weigh 74 = .ok (.dup2, 1) := by decide +kernel
theorem dX0_weigh_75 : decode cX0_weigh 75 = .ok (.iaload, 1) := by decide +kernel
theorem dX0_weigh_76 : decode cX0_weigh 76 = .ok (.iconst 1, 1) := by decide +kernel
theorem dX0_weigh_77 : decode cX0_weigh 77 = .ok (.iadd, 1) := by decide +kernel
theorem dX0_weigh_78 : decode cX0_weigh 78 = .ok (.iastore, 1) := by decide +kernel
theorem dX0_weigh_79 : decode cX0_weigh 79 = .ok (.iinc 1 1, 3) := by decide +kernel
theorem dX0_weigh_82 : decode cX0_weigh 82 = .ok (.goto (-58), 3) := by decide +kernel
theorem dX0_weigh_85 : decode cX0_weigh 85 = .ok (.return_, 1) := by decide +kernel
theorem dX0_bestTry_0 : decode cX0_bestTry 0 = .ok (.aload_n 0, 1) := by decide +kernel
theorem dX0_bestTry_1 : decode cX0_bestTry 1 = .ok (.getfield 71, 3) := by decide +kernel
theorem dX0_bestTry_4 : decode cX0_bestTry 4 = .ok (.ifCond .ne 6, 3) := by decide +kernel
theorem dX0_bestTry_7 : decode cX0_bestTry 7 = .ok (.bipush (-4), 2) := by decide +kernel
theorem dX0_bestTry_9 : decode cX0_bestTry 9 = .ok (.ireturn, 1) := by decide +kernel
theorem dX0_bestTry_10 : decode cX0_bestTry 10 = .ok (.aload_n 0, 1) := by decide +kernel
theorem dX0_bestTry_11 : decode cX0_bestTry 11 = .ok (.iconst 1, 1) := by decide +kernel
theorem dX0_bestTry_12 : decode cX0_bestTry 12 = .ok (.invokevirtual 116, 3) := by decide +kernel
theorem dX0_bestTry_15 : decode cX0_bestTry 15 = .ok (.aload_n 0, 1) := by decide +kernel
theorem dX0_bestTry_16 : decode cX0_bestTry 16 = .ok (.iconst 0, 1) := by decide +kernel
theorem dX0_bestTry_17 : decode cX0_bestTry 17 = .ok (.invokevirtual 116, 3) := by decide +kernel
theorem dX0_bestTry_20 : decode cX0_bestTry 20 = .ok (.if_icmp .ge 7, 3) := by decide +kernel
theorem dX0_bestTry_23 : decode cX0_bestTry 23 = .ok (.iconst 1, 1) := by decide +kernel
theorem dX0_bestTry_24 : decode cX0_bestTry 24 = .ok (.goto 4, 3) := by decide +kernel
theorem dX0_bestTry_27 : decode cX0_bestTry 27 = .ok (.iconst 0, 1) := by decide +kernel
theorem dX0_bestTry_28 : decode cX0_bestTry 28 = .ok (.ireturn, 1) := by decide +kernel
theorem dX0_greatestPart_0 : decode cX0_greatestPart 0 = .ok (.iconst 0, 1) := by decide +kernel
theorem dX0_greatestPart_1 : decode cX0_greatestPart 1 = .ok (.istore_n 2, 1) := by decide +kernel
theorem dX0_greatestPart_2 : decode cX0_greatestPart 2 = .ok (.iconst 0, 1) := by decide +kernel
theorem dX0_greatestPart_3 : decode cX0_greatestPart 3 = .ok (.istore_n 3, 1) := by decide +kernel
theorem dX0_greatestPart_4 : decode cX0_greatestPart 4 = .ok (.iload_n 3, 1) := by decide +kernel
theorem dX0_greatestPart_5 : decode cX0_greatestPart 5 = .ok (.bipush 9, 2) := by decide +kernel
theorem dX0_greatestPart_7 : decode cX0_greatestPart 7 = .ok (.if_icmp .ge 25, 3) := by decide +kernel
theorem dX0_greatestPart_10 : decode cX0_greatestPart 10 = .ok (.iload_n 2, 1) := by decide +kernel
theorem dX0_greatestPart_11 : decode cX0_greatestPart 11 = .ok (.aload_n 0, 1) := by decide +kernel
theorem dX0_greatestPart_12 : decode cX0_greatestPart 12 = .ok (.getfield 34, 3) := by decide +kernel
theorem dX0_greatestPart_15 : decode cX0_greatestPart 15 = .ok (.iload_n 1, 1) := by decide +kernel
theorem dX0_greatestPart_16 : decode cX0_greatestPart 16 = .ok (.bipush 9, 2) := by decide +kernel
theorem dX0_greatestPart_18 : decode cX0_greatestPart 18 = .ok (.imul, 1) := by decide +kernel
theorem dX0_greatestPart_19 : decode cX0_greatestPart 19 = .ok (.iload_n 3, 1) := by decide +kernel
theorem dX0_greatestPart_20 : decode cX0_greatestPart 20 = .ok (.iadd, 1) := by decide +kernel
theorem dX0_greatestPart_21 : decode cX0_greatestPart 21 = .ok (.iaload, 1) := by decide +kernel
theorem dX0_greatestPart_22 : decode cX0_greatestPart 22 = .ok (.invokestatic 119, 3) := by decide +kernel
theorem dX0_greatestPart_25 : decode cX0_greatestPart 25 = .ok (.istore_n 2, 1) := by decide +kernel
theorem dX0_greatestPart_26 : decode cX0_greatestPart 26 = .ok (.iinc 3 1, 3) := by decide +kernel
theorem dX0_greatestPart_29 : decode cX0_greatestPart 29 = .ok (.goto (-25), 3) := by decide +kernel
theorem dX0_greatestPart_32 : decode cX0_greatestPart 32 = .ok (.iload_n 2, 1) := by decide +kernel
theorem dX0_greatestPart_33 : decode cX0_greatestPart 33 = .ok (.ireturn, 1) := by decide +kernel
