theorem dX10_third_29 : decode cX10_third 29 = .ok (.iaload, 1) := by decide +kernel
theorem dX10_third_30 : decode cX10_third 30 = .ok (.aload_n 0, 1) := by decide +kernel
theorem dX10_third_31 : decode cX10_third 31 = .ok (.iload_n 1, 1) := by decide +kernel
theorem dX10_third_32 : decode cX10_third 32 = .ok (.iload 4, 2) := by decide +kernel
theorem dX10_third_34 : decode cX10_third 34 = .ok (.iadd, 1) := by decide +kernel
theorem dX10_third_35 : decode cX10_third 35 = .ok (.iaload, 1) := by decide +kernel
theorem dX10_third_36 : decode cX10_third 36 = .ok (.iand, 1) := by decide +kernel
theorem dX10_third_37 : decode cX10_third 37 = .ok (.iconst 1, 1) := by decide +kernel
theorem dX10_third_38 : decode cX10_third 38 = .ok (.iload 6, 2) := by decide +kernel
theorem dX10_third_40 : decode cX10_third 40 = .ok (.ishl, 1) := by decide +kernel
theorem dX10_third_41 : decode cX10_third 41 = .ok (.iand, 1) := by decide +kernel
theorem dX10_third_42 : decode cX10_third 42 = .ok (.ifCond .eq 8, 3) := by decide +kernel
theorem dX10_third_45 : decode cX10_third 45 = .ok (.iload 6, 2) := by decide +kernel
theorem dX10_third_47 : decode cX10_third 47 = .ok (.goto 5, 3) := by decide +kernel
theorem dX10_third_50 : decode cX10_third 50 = .ok (.iload 5, 2) := by decide +kernel
theorem dX10_third_52 : decode cX10_third 52 = .ok (.istore 5, 2) := by decide +kernel
theorem dX10_third_54 : decode cX10_third 54 = .ok (.iinc 6 1, 3) := by decide +kernel
theorem dX10_third_57 : decode cX10_third 57 = .ok (.goto (-50), 3) := by decide +kernel
theorem dX10_third_60 : decode cX10_third 60 = .ok (.iload 5, 2) := by decide +kernel
theorem dX10_third_62 : decode cX10_third 62 = .ok (.ireturn, 1) := by decide +kernel
theorem dX10_brought_0 : decode cX10_brought 0 = .ok (.iload 5, 2) := by decide +kernel
theorem dX10_brought_2 : decode cX10_brought 2 = .ok (.ifCond .ne 15, 3) := by decide +kernel
theorem dX10_brought_5 : decode cX10_brought 5 = .ok (.aload_n 0, 1) := by decide +kernel
theorem dX10_brought_6 : decode cX10_brought 6 = .ok (.iload_n 1, 1) := by decide +kernel
theorem dX10_brought_7 : decode cX10_brought 7 = .ok (.iload_n 2, 1) := by decide +kernel
theorem dX10_brought_8 : decode cX10_brought 8 = .ok (.iload_n 3, 1) := by decide +kernel
theorem dX10_brought_9 : decode cX10_brought 9 = .ok (.iload 4, 2) := by decide +kernel
theorem dX10_brought_11 : decode cX10_brought 11 = .ok (.invokestatic 151, 3) := by decide +kernel
theorem dX10_brought_14 : decode cX10_brought 14 = .ok (.goto 12, 3) := by decide +kernel
theorem dX10_brought_17 : decode cX10_brought 17 = .ok (.aload_n 0, 1) := by decide +kernel
theorem dX10_brought_18 : decode cX10_brought 18 = .ok (.iload_n 1, 1) := by decide +kernel
theorem dX10_brought_19 : decode cX10_brought 19 = .ok (.iload_n 2, 1) := by decide +kernel
theorem dX10_brought_20 : decode cX10_brought 20 = .ok (.iload 4, 2) := by decide +kernel
theorem dX10_brought_22 : decode cX10_brought 22 = .ok (.iload_n 3, 1) := by decide +kernel
theorem dX10_brought_23 : decode cX10_brought 23 = .ok (.invokestatic 151, 3) := by decide +kernel
theorem dX10_brought_26 : decode cX10_brought 26 = .ok (.ireturn, 1) := by decide +kernel
theorem dX10_bringsNow_0 : decode cX10_bringsNow 0 = .ok (.aload_n 0, 1) := by decide +kernel
theorem dX10_bringsNow_1 : decode cX10_bringsNow 1 = .ok (.getfield 7, 3) := by decide +kernel
theorem dX10_bringsNow_4 : decode cX10_bringsNow 4 = .ok (.bipush 44, 2) := by decide +kernel
theorem dX10_bringsNow_6 : decode cX10_bringsNow 6 = .ok (.aload_n 0, 1) := by decide +kernel
theorem dX10_bringsNow_7 : decode cX10_bringsNow 7 = .ok (.getfield 7, 3) := by decide +kernel
theorem dX10_bringsNow_10 : decode cX10_bringsNow 10 = .ok (.iconst 0, 1) := by decide +kernel
theorem dX10_bringsNow_11 : decode cX10_bringsNow 11 = .ok (.iaload, 1) := by decide +kernel
theorem dX10_bringsNow_12 : decode cX10_bringsNow 12 = .ok (.aload_n 0, 1) := by decide +kernel
theorem dX10_bringsNow_13 : decode cX10_bringsNow 13 = .ok (.getfield 7, 3) := by decide +kernel
theorem dX10_bringsNow_16 : decode cX10_bringsNow 16 = .ok (.iconst 1, 1) := by decide +kernel
theorem dX10_bringsNow_17 : decode cX10_bringsNow 17 = .ok (.iaload, 1) := by decide +kernel
theorem dX10_bringsNow_18 : decode cX10_bringsNow 18 = .ok (.aload_n 0, 1) := by decide +kernel
theorem dX10_bringsNow_19 : decode cX10_bringsNow 19 = .ok (.getfield 7, 3) := by decide +kernel
theorem dX10_bringsNow_22 : decode cX10_bringsNow 22 = .ok (.iconst 2, 1) := by decide +kernel
theorem dX10_bringsNow_23 : decode cX10_bringsNow 23 = .ok (.iaload, 1) := by decide +kernel
theorem dX10_bringsNow_24 : decode cX10_bringsNow 24 = .ok (.iload_n 1, 1) := by decide +kernel
theorem dX10_bringsNow_25 : decode cX10_bringsNow 25 = .ok (.invokestatic 155, 3) := by decide +kernel
theorem dX10_bringsNow_28 : decode cX10_bringsNow 28 = .ok (.ireturn, 1) := by decide +kernel
theorem dX10_brings_0 : decode cX10_brings 0 = .ok (.iload_n 1, 1) := by decide +kernel
theorem dX10_brings_1 : decode cX10_brings 1 = .ok (.i2l, 1) := by decide +kernel
theorem dX10_brings_2 : decode cX10_brings 2 = .ok (.lconst 0, 1) := by decide +kernel
theorem dX10_brings_3 : decode cX10_brings 3 = .ok (.lconst 1, 1) := by decide +kernel
theorem dX10_brings_4 : decode cX10_brings 4 = .ok (.invokestatic 77, 3) := by decide +kernel
theorem dX10_brings_7 : decode cX10_brings 7 = .ok (.ifCond .ne 5, 3) := by decide +kernel
theorem dX10_brings_10 : decode cX10_brings 10 = .ok (.iconst (-1), 1) := by decide +kernel
theorem dX10_brings_11 : decode cX10_brings 11 = .ok (.ireturn, 1) := by decide +kernel
theorem dX10_brings_12 : decode cX10_brings 12 = .ok (.aload_n 0, 1) := by decide +kernel
theorem dX10_brings_13 : decode cX10_brings 13 = .ok (.invokevirtual 159, 3) := by decide +kernel
theorem dX10_brings_16 : decode cX10_brings 16 = .ok (.ifCond .eq 11, 3) := by decide +kernel
theorem dX10_brings_19 : decode cX10_brings 19 = .ok (.aload_n 0, 1) := by decide +kernel
theorem dX10_brings_20 : decode cX10_brings 20 = .ok (.iload_n 1, 1) := by decide +kernel
theorem dX10_brings_21 : decode cX10_brings 21 = .ok (.invokevirtual 162, 3) := by decide +kernel
theorem dX10_brings_24 : decode cX10_brings 24 = .ok (.goto 5, 3) := by decide +kernel
theorem dX10_brings_27 : decode cX10_brings 27 = .ok (.bipush (-2), 2) := by decide +kernel
theorem dX10_brings_29 : decode cX10_brings 29 = .ok (.ireturn, 1) := by decide +kernel
theorem dX10_notes_0 : decode cX10_notes 0 = .ok (.aload_n 0, 1) := by decide +kernel
theorem dX10_notes_1 : decode cX10_notes 1 = .ok (.getfield 130, 3) := by decide +kernel
theorem dX10_notes_4 : decode cX10_notes 4 = .ok (.bipush 24, 2) := by decide +kernel
theorem dX10_notes_6 : decode cX10_notes 6 = .ok (.if_icmp .ne 40, 3) := by decide +kernel
theorem dX10_notes_9 : decode cX10_notes 9 = .ok (.bipush 52, 2) := by decide +kernel
theorem dX10_notes_11 : decode cX10_notes 11 = .ok (.istore_n 1, 1) := by decide +kernel
theorem dX10_notes_12 : decode cX10_notes 12 = .ok (.iload_n 1, 1) := by decide +kernel
theorem dX10_notes_13 : decode cX10_notes 13 = .ok (.sipush 1248, 3) := by decide +kernel
theorem dX10_notes_16 : decode cX10_notes 16 = .ok (.if_icmp .ge 24, 3) := by decide +kernel
theorem dX10_notes_19 : decode cX10_notes 19 = .ok (.aload_n 0, 1) := by decide +kernel
theorem dX10_notes_20 : decode cX10_notes 20 = .ok (.getfield 19, 3) := by decide +kernel
theorem dX10_notes_23 : decode cX10_notes 23 = .ok (.iload_n 1, 1) := by decide +kernel
theorem dX10_notes_24 : decode cX10_notes 24 = .ok (.bipush 52, 2) := by decide +kernel
theorem dX10_notes_26 : decode cX10_notes 26 = .ok (.isub, 1) := by decide +kernel
theorem dX10_notes_27 : decode cX10_notes 27 = .ok (.aload_n 0, 1) := by decide +kernel
theorem dX10_notes_28 : decode cX10_notes 28 = .ok (.getfield 19, 3) := by decide +kernel
theorem dX10_notes_31 : decode cX10_notes 31 = .ok (.iload_n 1, 1) := by decide +kernel
theorem dX10_notes_32 : decode cX10_notes 32 = .ok (.iaload, 1) := by decide +kernel
theorem dX10_notes_33 : decode cX10_notes 33 = .ok (.iastore, 1) := by decide +kernel
theorem dX10_notes_34 : decode cX10_notes 34 = .ok (.iinc 1 1, 3) := by decide +kernel
theorem dX10_notes_37 : decode cX10_notes 37 = .ok (.goto (-25), 3) := by decide +kernel
theorem dX10_notes_40 : decode cX10_notes 40 = .ok (.aload_n 0, 1) := by decide +kernel
theorem dX10_notes_41 : decode cX10_notes 41 = .ok (.bipush 23, 2) := by decide +kernel
theorem dX10_notes_43 : decode cX10_notes 43 = .ok (.putfield 130, 3) := by decide +kernel
theorem dX10_notes_46 : decode cX10_notes 46 = .ok (.iconst 0, 1) := by decide +kernel
theorem dX10_notes_47 : decode cX10_notes 47 = .ok (.istore_n 1, 1) := by decide +kernel
theorem dX10_notes_48 : decode cX10_notes 48 = .ok (.iload_n 1, 1) := by decide +kernel
theorem dX10_notes_49 : decode cX10_notes 49 = .ok (.bipush 52, 2) := by decide +kernel
theorem dX10_notes_51 : decode cX10_notes 51 = .ok (.if_icmp .ge 29, 3) := by decide +kernel
theorem dX10_notes_54 : decode cX10_notes 54 = .ok (.aload_n 0, 1) := by decide +kernel
theorem dX10_notes_55 : decode cX10_notes 55 = .ok (.getfield 19, 3) := by decide +kernel
theorem dX10_notes_58 : decode cX10_notes 58 = .ok (.bipush 52, 2) := by decide +kernel
theorem dX10_notes_60 : decode cX10_notes 60 = .ok (.aload_n 0, 1) := by decide +kernel
theorem dX10_notes_61 : decode cX10_notes 61 = .ok (.getfield 130, 3) := by decide +kernel
theorem dX10_notes_64 : decode cX10_notes 64 = .ok (.imul, 1) := by decide +kernel
theorem dX10_notes_65 : decode cX10_notes 65 = .ok (.iload_n 1, 1) := by decide +kernel
theorem dX10_notes_66 : decode cX10_notes 66 = .ok (.iadd, 1) := by decide +kernel
theorem dX10_notes_67 : decode cX10_notes 67 = .ok (.aload_n 0, 1) := by decide +kernel
theorem dX10_notes_68 : decode cX10_notes 68 = .ok (.getfield 7, 3) := by decide +kernel
theorem dX10_notes_71 : decode cX10_notes 71 = .ok (.iload_n 1, 1) := by decide +kernel
theorem dX10_notes_72 : decode cX10_notes 72 = .ok (.iaload, 1) := by decide +kernel
theorem dX10_notes_73 : decode cX10_notes 73 = .ok (.iastore, 1) := by decide +kernel
theorem dX10_notes_74 : decode cX10_notes 74 = .ok (.iinc 1 1, 3) := by decide +kernel
theorem dX10_notes_77 : decode cX10_notes 77 = .ok (.goto (-29), 3) := by decide +kernel
theorem dX10_notes_80 : decode cX10_notes 80 = .ok (.aload_n 0, 1) := by decide +kernel
theorem dX10_notes_81 : decode cX10_notes 81 = .ok (.dup, 1) := by decide +kernel
theorem dX10_notes_82 : decode cX10_notes 82 = .ok (.getfield 130, 3) := by decide +kernel
theorem dX10_notes_85 : decode cX10_notes 85 = .ok (.iconst 1, 1) := by decide +kernel
theorem dX10_notes_86 : decode cX10_notes 86 = .ok (.iadd, 1) := by decide +kernel
theorem dX10_notes_87 : decode cX10_notes 87 = .ok (.putfield 130, 3) := by decide +kernel
theorem dX10_notes_90 : decode cX10_notes 90 = .ok (.return_, 1) := by decide +kernel
theorem dX10_may_0 : decode cX10_may 0 = .ok (.iload_n 1, 1) := by decide +kernel
theorem dX10_may_1 : decode cX10_may 1 = .ok (.iconst 2, 1) := by decide +kernel
theorem dX10_may_2 : decode cX10_may 2 = .ok (.if_icmp .ne 5, 3) := by decide +kernel
theorem dX10_may_5 : decode cX10_may 5 = .ok (.iconst 1, 1) := by decide +kernel
theorem dX10_may_6 : decode cX10_may 6 = .ok (.ireturn, 1) := by decide +kernel
theorem dX10_may_7 : decode cX10_may 7 = .ok (.aload_n 0, 1) := by decide +kernel
theorem dX10_may_8 : decode cX10_may 8 = .ok (.iload_n 1, 1) := by decide +kernel
theorem dX10_may_9 : decode cX10_may 9 = .ok (.invokevirtual 162, 3) := by decide +kernel
theorem dX10_may_12 : decode cX10_may 12 = .ok (.istore_n 2, 1) := by decide +kernel
theorem dX10_may_13 : decode cX10_may 13 = .ok (.iload_n 2, 1) := by decide +kernel
theorem dX10_may_14 : decode cX10_may 14 = .ok (.bipush (-4), 2) := by decide +kernel
theorem dX10_may_16 : decode cX10_may 16 = .ok (.if_icmp .eq 15, 3) := by decide +kernel
theorem dX10_may_19 : decode cX10_may 19 = .ok (.aload_n 0, 1) := by decide +kernel
theorem dX10_may_20 : decode cX10_may 20 = .ok (.iload_n 2, 1) := by decide +kernel
theorem dX10_may_21 : decode cX10_may 21 = .ok (.invokevirtual 142, 3) := by decide +kernel
theorem dX10_may_24 : decode cX10_may 24 = .ok (.ifCond .ne 7, 3) := by decide +kernel
theorem dX10_may_27 : decode cX10_may 27 = .ok (.iconst 1, 1) := by decide +kernel
theorem dX10_may_28 : decode cX10_may 28 = .ok (.goto 4, 3) := by decide +kernel
theorem dX10_may_31 : decode cX10_may 31 = .ok (.iconst 0, 1) := by decide +kernel
theorem dX10_may_32 : decode cX10_may 32 = .ok (.ireturn, 1) := by decide +kernel
theorem dX10_moves_0 : decode cX10_moves 0 = .ok (.aload_n 0, 1) := by decide +kernel
theorem dX10_moves_1 : decode cX10_moves 1 = .ok (.getfield 7, 3) := by decide +kernel
theorem dX10_moves_4 : decode cX10_moves 4 = .ok (.iconst 1, 1) := by decide +kernel
theorem dX10_moves_5 : decode cX10_moves 5 = .ok (.iaload, 1) := by decide +kernel
theorem dX10_moves_6 : decode cX10_moves 6 = .ok (.istore_n 2, 1) := by decide +kernel
theorem dX10_moves_7 : decode cX10_moves 7 = .ok (.iload_n 1, 1) := by decide +kernel
theorem dX10_moves_8 : decode cX10_moves 8 = .ok (.iconst 2, 1) := by decide +kernel
theorem dX10_moves_9 : decode cX10_moves 9 = .ok (.if_icmp .ne 12, 3) := by decide +kernel
theorem dX10_moves_12 : decode cX10_moves 12 = .ok (.aload_n 0, 1) := by decide +kernel
theorem dX10_moves_13 : decode cX10_moves 13 = .ok (.getfield 7, 3) := by decide +kernel
theorem dX10_moves_16 : decode cX10_moves 16 = .ok (.iconst 2, 1) := by decide +kernel
theorem dX10_moves_17 : decode cX10_moves 17 = .ok (.iaload, 1) := by decide +kernel
theorem dX10_moves_18 : decode cX10_moves 18 = .ok (.goto 8, 3) := by decide +kernel
theorem dX10_moves_21 : decode cX10_moves 21 = .ok (.aload_n 0, 1) := by decide +kernel
theorem dX10_moves_22 : decode cX10_moves 22 = .ok (.iload_n 1, 1) := by decide +kernel
theorem dX10_moves_23 : decode cX10_moves 23 = .ok (.invokevirtual 162, 3) := by decide +kernel
theorem dX10_moves_26 : decode cX10_moves 26 = .ok (.istore_n 3, 1) := by decide +kernel
theorem dX10_moves_27 : decode cX10_moves 27 = .ok (.aload_n 0, 1) := by decide +kernel
theorem dX10_moves_28 : decode cX10_moves 28 = .ok (.getfield 7, 3) := by decide +kernel
theorem dX10_moves_31 : decode cX10_moves 31 = .ok (.iconst 3, 1) := by decide +kernel
theorem dX10_moves_32 : decode cX10_moves 32 = .ok (.dup2, 1) := by decide +kernel
theorem dX10_moves_33 : decode cX10_moves 33 = .ok (.iaload, 1) := by decide +kernel
theorem dX10_moves_34 : decode cX10_moves 34 = .ok (.iload_n 1, 1) := by decide +kernel
theorem dX10_moves_35 : decode cX10_moves 35 = .ok (.iconst 2, 1) := by decide +kernel
theorem dX10_moves_36 : decode cX10_moves 36 = .ok (.if_icmp .ne 7, 3) := by decide +kernel
theorem dX10_moves_39 : decode cX10_moves 39 = .ok (.iconst 1, 1) := by decide +kernel
theorem dX10_moves_40 : decode cX10_moves 40 = .ok (.goto 8, 3) := by decide +kernel
theorem dX10_moves_43 : decode cX10_moves 43 = .ok (.aload_n 0, 1) := by decide +kernel
theorem dX10_moves_44 : decode cX10_moves 44 = .ok (.iload_n 3, 1) := by decide +kernel
theorem dX10_moves_45 : decode cX10_moves 45 = .ok (.invokevirtual 139, 3) := by decide +kernel
theorem dX10_moves_48 : decode cX10_moves 48 = .ok (.iadd, 1) := by decide +kernel
theorem dX10_moves_49 : decode cX10_moves 49 = .ok (.iastore, 1) := by decide +kernel
theorem dX10_moves_50 : decode cX10_moves 50 = .ok (.aload_n 0, 1) := by decide +kernel
theorem dX10_moves_51 : decode cX10_moves 51 = .ok (.getfield 7, 3) := by decide +kernel
theorem dX10_moves_54 : decode cX10_moves 54 = .ok (.iconst 1, 1) := by decide +kernel
theorem dX10_moves_55 : decode cX10_moves 55 = .ok (.iload_n 3, 1) := by decide +kernel
theorem dX10_moves_56 : decode cX10_moves 56 = .ok (.iastore, 1) := by decide +kernel
theorem dX10_moves_57 : decode cX10_moves 57 = .ok (.aload_n 0, 1) := by decide +kernel
theorem dX10_moves_58 : decode cX10_moves 58 = .ok (.getfield 7, 3) := by decide +kernel
theorem dX10_moves_61 : decode cX10_moves 61 = .ok (.iconst 2, 1) := by decide +kernel
theorem dX10_moves_62 : decode cX10_moves 62 = .ok (.iload_n 2, 1) := by decide +kernel
theorem dX10_moves_63 : decode cX10_moves 63 = .ok (.iastore, 1) := by decide +kernel
theorem dX10_moves_64 : decode cX10_moves 64 = .ok (.iload_n 1, 1) := by decide +kernel
theorem dX10_moves_65 : decode cX10_moves 65 = .ok (.iconst 2, 1) := by decide +kernel
theorem dX10_moves_66 : decode cX10_moves 66 = .ok (.if_icmp .ne 6, 3) := by decide +kernel
theorem dX10_moves_69 : decode cX10_moves 69 = .ok (.bipush (-4), 2) := by decide +kernel
theorem dX10_moves_71 : decode cX10_moves 71 = .ok (.ireturn, 1) := by decide +kernel
theorem dX10_moves_72 : decode cX10_moves 72 = .ok (.aload_n 0, 1) := by decide +kernel
theorem dX10_moves_73 : decode cX10_moves 73 = .ok (.getfield 7, 3) := by decide +kernel
theorem dX10_moves_76 : decode cX10_moves 76 = .ok (.bipush 28, 2) := by decide +kernel
theorem dX10_moves_78 : decode cX10_moves 78 = .ok (.iload_n 3, 1) := by decide +kernel
theorem dX10_moves_79 : decode cX10_moves 79 = .ok (.iadd, 1) := by decide +kernel
theorem dX10_moves_80 : decode cX10_moves 80 = .ok (.dup2, 1) := by decide +kernel
theorem dX10_moves_81 : decode cX10_moves 81 = .ok (.iaload, 1) := by decide +kernel
theorem dX10_moves_82 : decode cX10_moves 82 = .ok (.aload_n 0, 1) := by decide +kernel
theorem dX10_moves_83 : decode cX10_moves 83 = .ok (.getfield 7, 3) := by decide +kernel
theorem dX10_moves_86 : decode cX10_moves 86 = .ok (.iconst 4, 1) := by decide +kernel
theorem dX10_moves_87 : decode cX10_moves 87 = .ok (.iload_n 3, 1) := by decide +kernel
theorem dX10_moves_88 : decode cX10_moves 88 = .ok (.iadd, 1) := by decide +kernel
theorem dX10_moves_89 : decode cX10_moves 89 = .ok (.iaload, 1) := by decide +kernel
theorem dX10_moves_90 : decode cX10_moves 90 = .ok (.invokestatic 165, 3) := by decide +kernel
theorem dX10_moves_93 : decode cX10_moves 93 = .ok (.iadd, 1) := by decide +kernel
theorem dX10_moves_94 : decode cX10_moves 94 = .ok (.iastore, 1) := by decide +kernel
theorem dX10_moves_95 : decode cX10_moves 95 = .ok (.aload_n 0, 1) := by decide +kernel
theorem dX10_moves_96 : decode cX10_moves 96 = .ok (.getfield 7, 3) := by decide +kernel
theorem dX10_moves_99 : decode cX10_moves 99 = .ok (.bipush 36, 2) := by decide +kernel
theorem dX10_moves_101 : decode cX10_moves 101 = .ok (.iload_n 3, 1) := by decide +kernel
theorem dX10_moves_102 : decode cX10_moves 102 = .ok (.iadd, 1) := by decide +kernel
theorem dX10_moves_103 : decode cX10_moves 103 = .ok (.dup2, 1) := by decide +kernel
theorem dX10_moves_104 : decode cX10_moves 104 = .ok (.iaload, 1) := by decide +kernel
theorem dX10_moves_105 : decode cX10_moves 105 = .ok (.aload_n 0, 1) := by decide +kernel
theorem dX10_moves_106 : decode cX10_moves 106 = .ok (.getfield 7, 3) := by decide +kernel
theorem dX10_moves_109 : decode cX10_moves 109 = .ok (.bipush 36, 2) := by decide +kernel
theorem dX10_moves_111 : decode cX10_moves 111 = .ok (.iload_n 3, 1) := by decide +kernel
theorem dX10_moves_112 : decode cX10_moves 112 = .ok (.iadd, 1) := by decide +kernel
theorem dX10_moves_113 : decode cX10_moves 113 = .ok (.iaload, 1) := by decide +kernel
theorem dX10_moves_114 : decode cX10_moves 114 = .ok (.bipush 99, 2) := by decide +kernel
theorem dX10_moves_116 : decode cX10_moves 116 = .ok (.if_icmp .ge 7, 3) := by decide +kernel
theorem dX10_moves_119 : decode cX10_moves 119 = .ok (.iconst 1, 1) := by decide +kernel
theorem dX10_moves_120 : decode cX10_moves 120 = .ok (.goto 4, 3) := by decide +kernel
theorem dX10_moves_123 : decode cX10_moves 123 = .ok (.iconst 0, 1) := by decide +kernel
theorem dX10_moves_124 : decode cX10_moves 124 = .ok (.iadd, 1) := by decide +kernel
theorem dX10_moves_125 : decode cX10_moves 125 = .ok (.iastore, 1) := by decide +kernel
theorem dX10_moves_126 : decode cX10_moves 126 = .ok (.iload_n 3, 1) := by decide +kernel
theorem dX10_moves_127 : decode cX10_moves 127 = .ok (.ireturn, 1) := by decide +kernel
theorem dX10_flex_0 : decode cX10_flex 0 = .ok (.iload_n 1, 1) := by decide +kernel
theorem dX10_flex_1 : decode cX10_flex 1 = .ok (.i2l, 1) := by decide +kernel
theorem dX10_flex_2 : decode cX10_flex 2 = .ok (.lconst 0, 1) := by decide +kernel
theorem dX10_flex_3 : decode cX10_flex 3 = .ok (.lconst 1, 1) := by decide +kernel
theorem dX10_flex_4 : decode cX10_flex 4 = .ok (.invokestatic 77, 3) := by decide +kernel
theorem dX10_flex_7 : decode cX10_flex 7 = .ok (.ifCond .ne 5, 3) := by decide +kernel
theorem dX10_flex_10 : decode cX10_flex 10 = .ok (.iconst (-1), 1) := by decide +kernel
theorem dX10_flex_11 : decode cX10_flex 11 = .ok (.ireturn, 1) := by decide +kernel
theorem dX10_flex_12 : decode cX10_flex 12 = .ok (.aload_n 0, 1) := by decide +kernel
theorem dX10_flex_13 : decode cX10_flex 13 = .ok (.invokevirtual 159, 3) := by decide +kernel
theorem dX10_flex_16 : decode cX10_flex 16 = .ok (.ifCond .eq 11, 3) := by decide +kernel
theorem dX10_flex_19 : decode cX10_flex 19 = .ok (.aload_n 0, 1) := by decide +kernel
theorem dX10_flex_20 : decode cX10_flex 20 = .ok (.iload_n 1, 1) := by decide +kernel
theorem dX10_flex_21 : decode cX10_flex 21 = .ok (.invokevirtual 168, 3) := by decide +kernel
theorem dX10_flex_24 : decode cX10_flex 24 = .ok (.ifCond .ne 6, 3) := by decide +kernel
theorem dX10_flex_27 : decode cX10_flex 27 = .ok (.bipush (-2), 2) := by decide +kernel
theorem dX10_flex_29 : decode cX10_flex 29 = .ok (.ireturn, 1) := by decide +kernel
theorem dX10_flex_30 : decode cX10_flex 30 = .ok (.aload_n 0, 1) := by decide +kernel
theorem dX10_flex_31 : decode cX10_flex 31 = .ok (.invokevirtual 171, 3) := by decide +kernel
theorem dX10_flex_34 : decode cX10_flex 34 = .ok (.aload_n 0, 1) := by decide +kernel
theorem dX10_flex_35 : decode cX10_flex 35 = .ok (.iload_n 1, 1) := by decide +kernel
theorem dX10_flex_36 : decode cX10_flex 36 = .ok (.invokevirtual 174, 3) := by decide +kernel
theorem dX10_flex_39 : decode cX10_flex 39 = .ok (.ireturn, 1) := by decide +kernel
theorem dX10_turn_0 : decode cX10_turn 0 = .ok (.aload_n 0, 1) := by decide +kernel
theorem dX10_turn_1 : decode cX10_turn 1 = .ok (.invokevirtual 159, 3) := by decide +kernel
theorem dX10_turn_4 : decode cX10_turn 4 = .ok (.ifCond .ne 6, 3) := by decide +kernel
theorem dX10_turn_7 : decode cX10_turn 7 = .ok (.bipush (-2), 2) := by decide +kernel
theorem dX10_turn_9 : decode cX10_turn 9 = .ok (.ireturn, 1) := by decide +kernel
theorem dX10_turn_10 : decode cX10_turn 10 = .ok (.aload_n 0, 1) := by decide +kernel
theorem dX10_turn_11 : decode cX10_turn 11 = .ok (.invokevirtual 171, 3) := by decide +kernel
theorem dX10_turn_14 : decode cX10_turn 14 = .ok (.aload_n 0, 1) := by decide +kernel
theorem dX10_turn_15 : decode cX10_turn 15 = .ok (.iconst 2, 1) := by decide +kernel
theorem dX10_turn_16 : decode cX10_turn 16 = .ok (.invokevirtual 174, 3) := by decide +kernel
theorem dX10_turn_19 : decode cX10_turn 19 = .ok (.istore_n 1, 1) := by decide +kernel
theorem dX10_turn_20 : decode cX10_turn 20 = .ok (.iload_n 1, 1) := by decide +kernel
theorem dX10_turn_21 : decode cX10_turn 21 = .ok (.bipush (-4), 2) := by decide +kernel
theorem dX10_turn_23 : decode cX10_turn 23 = .ok (.if_icmp .ne 12, 3) := by decide +kernel
theorem dX10_turn_26 : decode cX10_turn 26 = .ok (.aload_n 0, 1) := by decide +kernel
theorem dX10_turn_27 : decode cX10_turn 27 = .ok (.getfield 7, 3) := by decide +kernel
theorem dX10_turn_30 : decode cX10_turn 30 = .ok (.iconst 1, 1) := by decide +kernel
theorem dX10_turn_31 : decode cX10_turn 31 = .ok (.iaload, 1) := by decide +kernel
theorem dX10_turn_32 : decode cX10_turn 32 = .ok (.goto 4, 3) := by decide +kernel
theorem dX10_turn_35 : decode cX10_turn 35 = .ok (.iload_n 1, 1) := by decide +kernel
theorem dX10_turn_36 : decode cX10_turn 36 = .ok (.ireturn, 1) := by decide +kernel
theorem dX10_refold_0 : decode cX10_refold 0 = .ok (.aload_n 0, 1) := by decide +kernel
theorem dX10_refold_1 : decode cX10_refold 1 = .ok (.iload_n 1, 1) := by decide +kernel
theorem dX10_refold_2 : decode cX10_refold 2 = .ok (.invokevirtual 136, 3) := by decide +kernel
theorem dX10_refold_5 : decode cX10_refold 5 = .ok (.ifCond .eq 16, 3) := by decide +kernel
theorem dX10_refold_8 : decode cX10_refold 8 = .ok (.aload_n 0, 1) := by decide +kernel
theorem dX10_refold_9 : decode cX10_refold 9 = .ok (.iload_n 2, 1) := by decide +kernel
theorem dX10_refold_10 : decode cX10_refold 10 = .ok (.invokevirtual 136, 3) := by decide +kernel
theorem dX10_refold_13 : decode cX10_refold 13 = .ok (.ifCond .eq 8, 3) := by decide +kernel
theorem dX10_refold_16 : decode cX10_refold 16 = .ok (.iload_n 1, 1) := by decide +kernel
theorem dX10_refold_17 : decode cX10_refold 17 = .ok (.iload_n 2, 1) := by decide +kernel
theorem dX10_refold_18 : decode cX10_refold 18 = .ok (.if_icmp .ne 5, 3) := by decide +kernel
theorem dX10_refold_21 : decode cX10_refold 21 = .ok (.iconst (-1), 1) := by decide +kernel
theorem dX10_refold_22 : decode cX10_refold 22 = .ok (.ireturn, 1) := by decide +kernel
theorem dX10_refold_23 : decode cX10_refold 23 = .ok (.aload_n 0, 1) := by decide +kernel
theorem dX10_refold_24 : decode cX10_refold 24 = .ok (.getfield 7, 3) := by decide +kernel
theorem dX10_refold_27 : decode cX10_refold 27 = .ok (.iconst 0, 1) := by decide +kernel
theorem dX10_refold_28 : decode cX10_refold 28 = .ok (.iaload, 1) := by decide +kernel
theorem dX10_refold_29 : decode cX10_refold 29 = .ok (.istore_n 3, 1) := by decide +kernel
theorem dX10_refold_30 : decode cX10_refold 30 = .ok (.iload_n 2, 1) := by decide +kernel
theorem dX10_refold_31 : decode cX10_refold 31 = .ok (.iload_n 1, 1) := by decide +kernel
theorem dX10_refold_32 : decode cX10_refold 32 = .ok (.isub, 1) := by decide +kernel
theorem dX10_refold_33 : decode cX10_refold 33 = .ok (.iload_n 3, 1) := by decide +kernel
theorem dX10_refold_34 : decode cX10_refold 34 = .ok (.iadd, 1) := by decide +kernel
theorem dX10_refold_35 : decode cX10_refold 35 = .ok (.iload_n 3, 1) := by decide +kernel
theorem dX10_refold_36 : decode cX10_refold 36 = .ok (.irem, 1) := by decide +kernel
theorem dX10_refold_37 : decode cX10_refold 37 = .ok (.istore 4, 2) := by decide +kernel
theorem dX10_refold_39 : decode cX10_refold 39 = .ok (.iload 4, 2) := by decide +kernel
theorem dX10_refold_41 : decode cX10_refold 41 = .ok (.iconst 1, 1) := by decide +kernel
theorem dX10_refold_42 : decode cX10_refold 42 = .ok (.if_icmp .le 32, 3) := by decide +kernel
theorem dX10_refold_45 : decode cX10_refold 45 = .ok (.iload 4, 2) := by decide +kernel
theorem dX10_refold_47 : decode cX10_refold 47 = .ok (.iload_n 3, 1) := by decide +kernel
theorem dX10_refold_48 : decode cX10_refold 48 = .ok (.iconst 1, 1) := by decide +kernel
theorem dX10_refold_49 : decode cX10_refold 49 = .ok (.isub, 1) := by decide +kernel
theorem dX10_refold_50 : decode cX10_refold 50 = .ok (.if_icmp .ge 24, 3) := by decide +kernel
theorem dX10_refold_53 : decode cX10_refold 53 = .ok (.aload_n 0, 1) := by decide +kernel
theorem dX10_refold_54 : decode cX10_refold 54 = .ok (.getfield 7, 3) := by decide +kernel
theorem dX10_refold_57 : decode cX10_refold 57 = .ok (.bipush 44, 2) := by decide +kernel
theorem dX10_refold_59 : decode cX10_refold 59 = .ok (.iload_n 1, 1) := by decide +kernel
theorem dX10_refold_60 : decode cX10_refold 60 = .ok (.iadd, 1) := by decide +kernel
theorem dX10_refold_61 : decode cX10_refold 61 = .ok (.iaload, 1) := by decide +kernel
theorem dX10_refold_62 : decode cX10_refold 62 = .ok (.iload_n 2, 1) := by decide +kernel
theorem dX10_refold_63 : decode cX10_refold 63 = .ok (.ishr, 1) := by decide +kernel
theorem dX10_refold_64 : decode cX10_refold 64 = .ok (.iconst 1, 1) := by decide +kernel
theorem dX10_refold_65 : decode cX10_refold 65 = .ok (.iand, 1) := by decide +kernel
theorem dX10_refold_66 : decode cX10_refold 66 = .ok (.iconst 1, 1) := by decide +kernel
theorem dX10_refold_67 : decode cX10_refold 67 = .ok (.if_icmp .ne 7, 3) := by decide +kernel
theorem dX10_refold_70 : decode cX10_refold 70 = .ok (.iconst 1, 1) := by decide +kernel
theorem dX10_refold_71 : decode cX10_refold 71 = .ok (.goto 4, 3) := by decide +kernel
theorem dX10_refold_74 : decode cX10_refold 74 = .ok (.iconst 0, 1) := by decide +kernel
theorem dX10_refold_75 : decode cX10_refold 75 = .ok (.istore 5, 2) := by decide +kernel
theorem dX10_refold_77 : decode cX10_refold 77 = .ok (.aload_n 0, 1) := by decide +kernel
theorem dX10_refold_78 : decode cX10_refold 78 = .ok (.getfield 7, 3) := by decide +kernel
theorem dX10_refold_81 : decode cX10_refold 81 = .ok (.iconst 1, 1) := by decide +kernel
theorem dX10_refold_82 : decode cX10_refold 82 = .ok (.iaload, 1) := by decide +kernel
theorem dX10_refold_83 : decode cX10_refold 83 = .ok (.iload_n 1, 1) := by decide +kernel
theorem dX10_refold_84 : decode cX10_refold 84 = .ok (.if_icmp .ne 13, 3) := by decide +kernel
theorem dX10_refold_87 : decode cX10_refold 87 = .ok (.aload_n 0, 1) := by decide +kernel
theorem dX10_refold_88 : decode cX10_refold 88 = .ok (.getfield 7, 3) := by decide +kernel
theorem dX10_refold_91 : decode cX10_refold 91 = .ok (.iconst 2, 1) := by decide +kernel
theorem dX10_refold_92 : decode cX10_refold 92 = .ok (.iaload, 1) := by decide +kernel
theorem dX10_refold_93 : decode cX10_refold 93 = .ok (.iload_n 2, 1) := by decide +kernel
theorem dX10_refold_94 : decode cX10_refold 94 = .ok (.if_icmp .eq 23, 3) := by decide +kernel
theorem dX10_refold_97 : decode cX10_refold 97 = .ok (.aload_n 0, 1) := by decide +kernel
theorem dX10_refold_98 : decode cX10_refold 98 = .ok (.getfield 7, 3) := by decide +kernel
theorem dX10_refold_101 : decode cX10_refold 101 = .ok (.iconst 1, 1) := by decide +kernel
theorem dX10_refold_102 : decode cX10_refold 102 = .ok (.iaload, 1) := by decide +kernel
theorem dX10_refold_103 : decode cX10_refold 103 = .ok (.iload_n 2, 1) := by decide +kernel
theorem dX10_refold_104 : decode cX10_refold 104 = .ok (.if_icmp .ne 17, 3) := by decide +kernel
theorem dX10_refold_107 : decode cX10_refold 107 = .ok (.aload_n 0, 1) := by decide +kernel
theorem dX10_refold_108 : decode cX10_refold 108 = .ok (.getfield 7, 3) := by decide +kernel
theorem dX10_refold_111 : decode cX10_refold 111 = .ok (.iconst 2, 1) := by decide +kernel
theorem dX10_refold_112 : decode cX10_refold 112 = .ok (.iaload, 1) := by decide +kernel
theorem dX10_refold_113 : decode cX10_refold 113 = .ok (.iload_n 1, 1) := by decide +kernel
theorem dX10_refold_114 : decode cX10_refold 114 = .ok (.if_icmp .ne 7, 3) := by decide +kernel
theorem dX10_refold_117 : decode cX10_refold 117 = .ok (.iconst 1, 1) := by decide +kernel
theorem dX10_refold_118 : decode cX10_refold 118 = .ok (.goto 4, 3) := by decide +kernel
theorem dX10_refold_121 : decode cX10_refold 121 = .ok (.iconst 0, 1) := by decide +kernel
theorem dX10_refold_122 : decode cX10_refold 122 = .ok (.istore 6, 2) := by decide +kernel
theorem dX10_refold_124 : decode cX10_refold 124 = .ok (.iload 5, 2) := by decide +kernel
theorem dX10_refold_126 : decode cX10_refold 126 = .ok (.ifCond .eq 8, 3) := by decide +kernel
theorem dX10_refold_129 : decode cX10_refold 129 = .ok (.iload 6, 2) := by decide +kernel
theorem dX10_refold_131 : decode cX10_refold 131 = .ok (.ifCond .eq 6, 3) := by decide +kernel
theorem dX10_refold_134 : decode cX10_refold 134 = .ok (.bipush (-2), 2) := by decide +kernel
theorem dX10_refold_136 : decode cX10_refold 136 = .ok (.ireturn, 1) := by decide +kernel
theorem dX10_refold_137 : decode cX10_refold 137 = .ok (.aload_n 0, 1) := by decide +kernel
theorem dX10_refold_138 : decode cX10_refold 138 = .ok (.invokevirtual 171, 3) := by decide +kernel
theorem dX10_refold_141 : decode cX10_refold 141 = .ok (.aload_n 0, 1) := by decide +kernel
theorem dX10_refold_142 : decode cX10_refold 142 = .ok (.getfield 7, 3) := by decide +kernel
theorem dX10_refold_145 : decode cX10_refold 145 = .ok (.bipush 44, 2) := by decide +kernel
theorem dX10_refold_147 : decode cX10_refold 147 = .ok (.iload_n 3, 1) := by decide +kernel
theorem dX10_refold_148 : decode cX10_refold 148 = .ok (.iload_n 1, 1) := by decide +kernel
theorem dX10_refold_149 : decode cX10_refold 149 = .ok (.iload_n 2, 1) := by decide +kernel
theorem dX10_refold_150 : decode cX10_refold 150 = .ok (.invokestatic 151, 3) := by decide +kernel
theorem dX10_refold_153 : decode cX10_refold 153 = .ok (.istore 7, 2) := by decide +kernel
theorem dX10_refold_155 : decode cX10_refold 155 = .ok (.aload_n 0, 1) := by decide +kernel
theorem dX10_refold_156 : decode cX10_refold 156 = .ok (.getfield 7, 3) := by decide +kernel
theorem dX10_refold_159 : decode cX10_refold 159 = .ok (.bipush 44, 2) := by decide +kernel
theorem dX10_refold_161 : decode cX10_refold 161 = .ok (.iload_n 3, 1) := by decide +kernel
theorem dX10_refold_162 : decode cX10_refold 162 = .ok (.iload_n 2, 1) := by decide +kernel
theorem dX10_refold_163 : decode cX10_refold 163 = .ok (.iload_n 1, 1) := by decide +kernel
theorem dX10_refold_164 : decode cX10_refold 164 = .ok (.invokestatic 151, 3) := by decide +kernel
theorem dX10_refold_167 : decode cX10_refold 167 = .ok (.istore 8, 2) := by decide +kernel
theorem dX10_refold_169 : decode cX10_refold 169 = .ok (.aload_n 0, 1) := by decide +kernel
theorem dX10_refold_170 : decode cX10_refold 170 = .ok (.getfield 7, 3) := by decide +kernel
theorem dX10_refold_173 : decode cX10_refold 173 = .ok (.bipush 44, 2) := by decide +kernel
theorem dX10_refold_175 : decode cX10_refold 175 = .ok (.iload_n 1, 1) := by decide +kernel
theorem dX10_refold_176 : decode cX10_refold 176 = .ok (.iadd, 1) := by decide +kernel
theorem dX10_refold_177 : decode cX10_refold 177 = .ok (.dup2, 1) := by decide +kernel
theorem dX10_refold_178 : decode cX10_refold 178 = .ok (.iaload, 1) := by decide +kernel
theorem dX10_refold_179 : decode cX10_refold 179 = .ok (.iconst 1, 1) := by decide +kernel
theorem dX10_refold_180 : decode cX10_refold 180 = .ok (.iload_n 2, 1) := by decide +kernel
theorem dX10_refold_181 : decode cX10_refold 181 = .ok (.ishl, 1) := by decide +kernel
theorem dX10_refold_182 : decode cX10_refold 182 = .ok (.ixor, 1) := by decide +kernel
theorem dX10_refold_183 : decode cX10_refold 183 = .ok (.iastore, 1) := by decide +kernel
theorem dX10_refold_184 : decode cX10_refold 184 = .ok (.aload_n 0, 1) := by decide +kernel
theorem dX10_refold_185 : decode cX10_refold 185 = .ok (.getfield 7, 3) := by decide +kernel
theorem dX10_refold_188 : decode cX10_refold 188 = .ok (.bipush 44, 2) := by decide +kernel
theorem dX10_refold_190 : decode cX10_refold 190 = .ok (.iload_n 2, 1) := by decide +kernel
theorem dX10_refold_191 : decode cX10_refold 191 = .ok (.iadd, 1) := by decide +kernel
theorem dX10_refold_192 : decode cX10_refold 192 = .ok (.dup2, 1) := by decide +kernel
theorem dX10_refold_193 : decode cX10_refold 193 = .ok (.iaload, 1) := by decide +kernel
theorem dX10_refold_194 : decode cX10_refold 194 = .ok (.iconst 1, 1) := by decide +kernel
theorem dX10_refold_195 : decode cX10_refold 195 = .ok (.iload_n 1, 1) := by decide +kernel
theorem dX10_refold_196 : decode cX10_refold 196 = .ok (.ishl, 1) := by decide +kernel
theorem dX10_refold_197 : decode cX10_refold 197 = .ok (.ixor, 1) := by decide +kernel
theorem dX10_refold_198 : decode cX10_refold 198 = .ok (.iastore, 1) := by decide +kernel
theorem dX10_refold_199 : decode cX10_refold 199 = .ok (.aload_n 0, 1) := by decide +kernel
theorem dX10_refold_200 : decode cX10_refold 200 = .ok (.getfield 7, 3) := by decide +kernel
theorem dX10_refold_203 : decode cX10_refold 203 = .ok (.bipush 44, 2) := by decide +kernel
theorem dX10_refold_205 : decode cX10_refold 205 = .ok (.iload 7, 2) := by decide +kernel
theorem dX10_refold_207 : decode cX10_refold 207 = .ok (.iload 8, 2) := by decide +kernel
theorem dX10_refold_209 : decode cX10_refold 209 = .ok (.invokestatic 108, 3) := by decide +kernel
theorem dX10_refold_212 : decode cX10_refold 212 = .ok (.iload 7, 2) := by decide +kernel
theorem dX10_refold_214 : decode cX10_refold 214 = .ok (.iload 8, 2) := by decide +kernel
theorem dX10_refold_216 : decode cX10_refold 216 = .ok (.if_icmp .ge 14, 3) := by decide +kernel
theorem dX10_refold_219 : decode cX10_refold 219 = .ok (.bipush 10, 2) := by decide +kernel
theorem dX10_refold_221 : decode cX10_refold 221 = .ok (.iload 7, 2) := by decide +kernel
theorem dX10_refold_223 : decode cX10_refold 223 = .ok (.imul, 1) := by decide +kernel
theorem dX10_refold_224 : decode cX10_refold 224 = .ok (.iload 8, 2) := by decide +kernel
theorem dX10_refold_226 : decode cX10_refold 226 = .ok (.iadd, 1) := by decide +kernel
theorem dX10_refold_227 : decode cX10_refold 227 = .ok (.goto 11, 3) := by decide +kernel
theorem dX10_refold_230 : decode cX10_refold 230 = .ok (.bipush 10, 2) := by decide +kernel
theorem dX10_refold_232 : decode cX10_refold 232 = .ok (.iload 8, 2) := by decide +kernel
theorem dX10_refold_234 : decode cX10_refold 234 = .ok (.imul, 1) := by decide +kernel
theorem dX10_refold_235 : decode cX10_refold 235 = .ok (.iload 7, 2) := by decide +kernel
theorem dX10_refold_237 : decode cX10_refold 237 = .ok (.iadd, 1) := by decide +kernel
theorem dX10_refold_238 : decode cX10_refold 238 = .ok (.ireturn, 1) := by decide +kernel
theorem dX10_mend_0 : decode cX10_mend 0 = .ok (.aload_n 0, 1) := by decide +kernel
theorem dX10_mend_1 : decode cX10_mend 1 = .ok (.iload_n 1, 1) := by decide +kernel
theorem dX10_mend_2 : decode cX10_mend 2 = .ok (.invokevirtual 136, 3) := by decide +kernel
theorem dX10_mend_5 : decode cX10_mend 5 = .ok (.ifCond .ne 5, 3) := by decide +kernel
theorem dX10_mend_8 : decode cX10_mend 8 = .ok (.iconst (-1), 1) := by decide +kernel
theorem dX10_mend_9 : decode cX10_mend 9 = .ok (.ireturn, 1) := by decide +kernel
theorem dX10_mend_10 : decode cX10_mend 10 = .ok (.aload_n 0, 1) := by decide +kernel
theorem dX10_mend_11 : decode cX10_mend 11 = .ok (.getfield 7, 3) := by decide +kernel
theorem dX10_mend_14 : decode cX10_mend 14 = .ok (.bipush 28, 2) := by decide +kernel
theorem dX10_mend_16 : decode cX10_mend 16 = .ok (.iload_n 1, 1) := by decide +kernel
theorem dX10_mend_17 : decode cX10_mend 17 = .ok (.iadd, 1) := by decide +kernel
theorem dX10_mend_18 : decode cX10_mend 18 = .ok (.iaload, 1) := by decide +kernel
theorem dX10_mend_19 : decode cX10_mend 19 = .ok (.ifCond .ne 6, 3) := by decide +kernel
theorem dX10_mend_22 : decode cX10_mend 22 = .ok (.bipush (-2), 2) := by decide +kernel
theorem dX10_mend_24 : decode cX10_mend 24 = .ok (.ireturn, 1) := by decide +kernel
theorem dX10_mend_25 : decode cX10_mend 25 = .ok (.aload_n 0, 1) := by decide +kernel
theorem dX10_mend_26 : decode cX10_mend 26 = .ok (.invokevirtual 171, 3) := by decide +kernel
theorem dX10_mend_29 : decode cX10_mend 29 = .ok (.aload_n 0, 1) := by decide +kernel
theorem dX10_mend_30 : decode cX10_mend 30 = .ok (.getfield 7, 3) := by decide +kernel
theorem dX10_mend_33 : decode cX10_mend 33 = .ok (.bipush 28, 2) := by decide +kernel
theorem dX10_mend_35 : decode cX10_mend 35 = .ok (.iload_n 1, 1) := by decide +kernel
theorem dX10_mend_36 : decode cX10_mend 36 = .ok (.iadd, 1) := by decide +kernel
theorem dX10_mend_37 : decode cX10_mend 37 = .ok (.dup2, 1) := by decide +kernel
theorem dX10_mend_38 : decode cX10_mend 38 = .ok (.iaload, 1) := by decide +kernel
theorem dX10_mend_39 : decode cX10_mend 39 = .ok (.aload_n 0, 1) := by decide +kernel
theorem dX10_mend_40 : decode cX10_mend 40 = .ok (.getfield 7, 3) := by decide +kernel
theorem dX10_mend_43 : decode cX10_mend 43 = .ok (.bipush 28, 2) := by decide +kernel
theorem dX10_mend_45 : decode cX10_mend 45 = .ok (.iload_n 1, 1) := by decide +kernel
theorem dX10_mend_46 : decode cX10_mend 46 = .ok (.iadd, 1) := by decide +kernel
theorem dX10_mend_47 : decode cX10_mend 47 = .ok (.iaload, 1) := by decide +kernel
theorem dX10_mend_48 : decode cX10_mend 48 = .ok (.iconst 1, 1) := by decide +kernel
theorem dX10_mend_49 : decode cX10_mend 49 = .ok (.if_icmp .le 7, 3) := by decide +kernel
theorem dX10_mend_52 : decode cX10_mend 52 = .ok (.iconst 2, 1) := by decide +kernel
theorem dX10_mend_53 : decode cX10_mend 53 = .ok (.goto 4, 3) := by decide +kernel
theorem dX10_mend_56 : decode cX10_mend 56 = .ok (.iconst 1, 1) := by decide +kernel
theorem dX10_mend_57 : decode cX10_mend 57 = .ok (.isub, 1) := by decide +kernel
theorem dX10_mend_58 : decode cX10_mend 58 = .ok (.iastore, 1) := by decide +kernel
theorem dX10_mend_59 : decode cX10_mend 59 = .ok (.aload_n 0, 1) := by decide +kernel
theorem dX10_mend_60 : decode cX10_mend 60 = .ok (.getfield 7, 3) := by decide +kernel
theorem dX10_mend_63 : decode cX10_mend 63 = .ok (.bipush 28, 2) := by decide +kernel
theorem dX10_mend_65 : decode cX10_mend 65 = .ok (.iload_n 1, 1) := by decide +kernel
theorem dX10_mend_66 : decode cX10_mend 66 = .ok (.iadd, 1) := by decide +kernel
theorem dX10_mend_67 : decode cX10_mend 67 = .ok (.iaload, 1) := by decide +kernel
theorem dX10_mend_68 : decode cX10_mend 68 = .ok (.ireturn, 1) := by decide +kernel
theorem dX10_undo_0 : decode cX10_undo 0 = .ok (.aload_n 0, 1) := by decide +kernel
theorem dX10_undo_1 : decode cX10_undo 1 = .ok (.getfield 130, 3) := by decide +kernel
theorem dX10_undo_4 : decode cX10_undo 4 = .ok (.ifCond .ne 6, 3) := by decide +kernel
theorem dX10_undo_7 : decode cX10_undo 7 = .ok (.bipush (-4), 2) := by decide +kernel
theorem dX10_undo_9 : decode cX10_undo 9 = .ok (.ireturn, 1) := by decide +kernel
theorem dX10_undo_10 : decode cX10_undo 10 = .ok (.aload_n 0, 1) := by decide +kernel
theorem dX10_undo_11 : decode cX10_undo 11 = .ok (.dup, 1) := by decide +kernel
theorem dX10_undo_12 : decode cX10_undo 12 = .ok (.getfield 130, 3) := by decide +kernel
theorem dX10_undo_15 : decode cX10_undo 15 = .ok (.iconst 1, 1) := by decide +kernel
theorem dX10_undo_16 : decode cX10_undo 16 = .ok (.isub, 1) := by decide +kernel
theorem dX10_undo_17 : decode cX10_undo 17 = .ok (.putfield 130, 3) := by decide +kernel
theorem dX10_undo_20 : decode cX10_undo 20 = .ok (.iconst 0, 1) := by decide +kernel
theorem dX10_undo_21 : decode cX10_undo 21 = .ok (.istore_n 1, 1) := by decide +kernel
theorem dX10_undo_22 : decode cX10_undo 22 = .ok (.iload_n 1, 1) := by decide +kernel
theorem dX10_undo_23 : decode cX10_undo 23 = .ok (.bipush 52, 2) := by decide +kernel
theorem dX10_undo_25 : decode cX10_undo 25 = .ok (.if_icmp .ge 29, 3) := by decide +kernel
theorem dX10_undo_28 : decode cX10_undo 28 = .ok (.aload_n 0, 1) := by decide +kernel
theorem dX10_undo_29 : decode cX10_undo 29 = .ok (.getfield 7, 3) := by decide +kernel
theorem dX10_undo_32 : decode cX10_undo 32 = .ok (.iload_n 1, 1) := by decide +kernel
theorem dX10_undo_33 : decode cX10_undo 33 = .ok (.aload_n 0, 1) := by decide +kernel
theorem dX10_undo_34 : decode cX10_undo 34 = .ok (.getfield 19, 3) := by decide +kernel
theorem dX10_undo_37 : decode cX10_undo 37 = .ok (.bipush 52, 2) := by decide +kernel
theorem dX10_undo_39 : decode cX10_undo 39 = .ok (.aload_n 0, 1) := by decide +kernel
theorem dX10_undo_40 : decode cX10_undo 40 = .ok (.getfield 130, 3) := by decide +kernel
theorem dX10_undo_43 : decode cX10_undo 43 = .ok (.imul, 1) := by decide +kernel
theorem dX10_undo_44 : decode cX10_undo 44 = .ok (.iload_n 1, 1) := by decide +kernel
theorem dX10_undo_45 : decode cX10_undo 45 = .ok (.iadd, 1) := by decide +kernel
theorem dX10_undo_46 : decode cX10_undo 46 = .ok (.iaload, 1) := by decide +kernel
theorem dX10_undo_47 : decode cX10_undo 47 = .ok (.iastore, 1) := by decide +kernel
theorem dX10_undo_48 : decode cX10_undo 48 = .ok (.iinc 1 1, 3) := by decide +kernel
theorem dX10_undo_51 : decode cX10_undo 51 = .ok (.goto (-29), 3) := by decide +kernel
theorem dX10_undo_54 : decode cX10_undo 54 = .ok (.aload_n 0, 1) := by decide +kernel
theorem dX10_undo_55 : decode cX10_undo 55 = .ok (.getfield 130, 3) := by decide +kernel
theorem dX10_undo_58 : decode cX10_undo 58 = .ok (.ireturn, 1) := by decide +kernel
theorem dX10_image_0 : decode cX10_image 0 = .ok (.iload_n 1, 1) := by decide +kernel
theorem dX10_image_1 : decode cX10_image 1 = .ok (.i2l, 1) := by decide +kernel
theorem dX10_image_2 : decode cX10_image 2 = .ok (.lconst 0, 1) := by decide +kernel
theorem dX10_image_3 : decode cX10_image 3 = .ok (.lconst 1, 1) := by decide +kernel
theorem dX10_image_4 : decode cX10_image 4 = .ok (.invokestatic 77, 3) := by decide +kernel
theorem dX10_image_7 : decode cX10_image 7 = .ok (.ifCond .ne 5, 3) := by decide +kernel
theorem dX10_image_10 : decode cX10_image 10 = .ok (.iconst (-1), 1) := by decide +kernel
theorem dX10_image_11 : decode cX10_image 11 = .ok (.ireturn, 1) := by decide +kernel
theorem dX10_image_12 : decode cX10_image 12 = .ok (.aload_n 0, 1) := by decide +kernel
theorem dX10_image_13 : decode cX10_image 13 = .ok (.invokevirtual 159, 3) := by decide +kernel
theorem dX10_image_16 : decode cX10_image 16 = .ok (.ifCond .ne 6, 3) := by decide +kernel
theorem dX10_image_19 : decode cX10_image 19 = .ok (.bipush (-2), 2) := by decide +kernel
theorem dX10_image_21 : decode cX10_image 21 = .ok (.ireturn, 1) := by decide +kernel
theorem dX10_image_22 : decode cX10_image 22 = .ok (.iconst 0, 1) := by decide +kernel
theorem dX10_image_23 : decode cX10_image 23 = .ok (.istore_n 2, 1) := by decide +kernel
theorem dX10_image_24 : decode cX10_image 24 = .ok (.iload_n 2, 1) := by decide +kernel
theorem dX10_image_25 : decode cX10_image 25 = .ok (.bipush 52, 2) := by decide +kernel
theorem dX10_image_27 : decode cX10_image 27 = .ok (.if_icmp .ge 26, 3) := by decide +kernel
theorem dX10_image_30 : decode cX10_image 30 = .ok (.aload_n 0, 1) := by decide +kernel
theorem dX10_image_31 : decode cX10_image 31 = .ok (.getfield 22, 3) := by decide +kernel
theorem dX10_image_34 : decode cX10_image 34 = .ok (.bipush 52, 2) := by decide +kernel
theorem dX10_image_36 : decode cX10_image 36 = .ok (.iload_n 1, 1) := by decide +kernel
theorem dX10_image_37 : decode cX10_image 37 = .ok (.imul, 1) := by decide +kernel
theorem dX10_image_38 : decode cX10_image 38 = .ok (.iload_n 2, 1) := by decide +kernel
theorem dX10_image_39 : decode cX10_image 39 = .ok (.iadd, 1) := by decide +kernel
theorem dX10_image_40 : decode cX10_image 40 = .ok (.aload_n 0, 1) := by decide +kernel
theorem dX10_image_41 : decode cX10_image 41 = .ok (.getfield 7, 3) := by decide +kernel
theorem dX10_image_44 : decode cX10_image 44 = .ok (.iload_n 2, 1) := by decide +kernel
theorem dX10_image_45 : decode cX10_image 45 = .ok (.iaload, 1) := by decide +kernel
theorem dX10_image_46 : decode cX10_image 46 = .ok (.iastore, 1) := by decide +kernel
theorem dX10_image_47 : decode cX10_image 47 = .ok (.iinc 2 1, 3) := by decide +kernel
theorem dX10_image_50 : decode cX10_image 50 = .ok (.goto (-26), 3) := by decide +kernel
theorem dX10_image_53 : decode cX10_image 53 = .ok (.aload_n 0, 1) := by decide +kernel
theorem dX10_image_54 : decode cX10_image 54 = .ok (.getfield 7, 3) := by decide +kernel
theorem dX10_image_57 : decode cX10_image 57 = .ok (.iconst 1, 1) := by decide +kernel
theorem dX10_image_58 : decode cX10_image 58 = .ok (.iaload, 1) := by decide +kernel
theorem dX10_image_59 : decode cX10_image 59 = .ok (.ireturn, 1) := by decide +kernel
theorem dX10_restore_0 : decode cX10_restore 0 = .ok (.iload_n 1, 1) := by decide +kernel
theorem dX10_restore_1 : decode cX10_restore 1 = .ok (.i2l, 1) := by decide +kernel
theorem dX10_restore_2 : decode cX10_restore 2 = .ok (.lconst 0, 1) := by decide +kernel
theorem dX10_restore_3 : decode cX10_restore 3 = .ok (.lconst 1, 1) := by decide +kernel
theorem dX10_restore_4 : decode cX10_restore 4 = .ok (.invokestatic 77, 3) := by decide +kernel
theorem dX10_restore_7 : decode cX10_restore 7 = .ok (.ifCond .ne 5, 3) := by decide +kernel
theorem dX10_restore_10 : decode cX10_restore 10 = .ok (.iconst (-1), 1) := by decide +kernel
theorem dX10_restore_11 : decode cX10_restore 11 = .ok (.ireturn, 1) := by decide +kernel
theorem dX10_restore_12 : decode cX10_restore 12 = .ok (.aload_n 0, 1) := by decide +kernel
theorem dX10_restore_13 : decode cX10_restore 13 = .ok (.getfield 22, 3) := by decide +kernel
theorem dX10_restore_16 : decode cX10_restore 16 = .ok (.bipush 52, 2) := by decide +kernel
theorem dX10_restore_18 : decode cX10_restore 18 = .ok (.iload_n 1, 1) := by decide +kernel
theorem dX10_restore_19 : decode cX10_restore 19 = .ok (.imul, 1) := by decide +kernel
theorem dX10_restore_20 : decode cX10_restore 20 = .ok (.iconst 0, 1) := by decide +kernel
theorem dX10_restore_21 : decode cX10_restore 21 = .ok (.iadd, 1) := by decide +kernel
theorem dX10_restore_22 : decode cX10_restore 22 = .ok (.iaload, 1) := by decide +kernel
theorem dX10_restore_23 : decode cX10_restore 23 = .ok (.ifCond .ne 6, 3) := by decide +kernel
theorem dX10_restore_26 : decode cX10_restore 26 = .ok (.bipush (-2), 2) := by decide +kernel
theorem dX10_restore_28 : decode cX10_restore 28 = .ok (.ireturn, 1) := by decide +kernel
theorem dX10_restore_29 : decode cX10_restore 29 = .ok (.iconst 0, 1) := by decide +kernel
theorem dX10_restore_30 : decode cX10_restore 30 = .ok (.istore_n 2, 1) := by decide +kernel
theorem dX10_restore_31 : decode cX10_restore 31 = .ok (.iload_n 2, 1) := by decide +kernel
theorem dX10_restore_32 : decode cX10_restore 32 = .ok (.bipush 52, 2) := by decide +kernel
theorem dX10_restore_34 : decode cX10_restore 34 = .ok (.if_icmp .ge 26, 3) := by decide +kernel
theorem dX10_restore_37 : decode cX10_restore 37 = .ok (.aload_n 0, 1) := by decide +kernel
theorem dX10_restore_38 : decode cX10_restore 38 = .ok (.getfield 7, 3) := by decide +kernel
theorem dX10_restore_41 : decode cX10_restore 41 = .ok (.iload_n 2, 1) := by decide +kernel
theorem dX10_restore_42 : decode cX10_restore 42 = .ok (.aload_n 0, 1) := by decide +kernel
theorem dX10_restore_43 : decode cX10_restore 43 = .ok (.getfield 22, 3) := by decide +kernel
theorem dX10_restore_46 : decode cX10_restore 46 = .ok (.bipush 52, 2) := by decide +kernel
theorem dX10_restore_48 : decode cX10_restore 48 = .ok (.iload_n 1, 1) := by decide +kernel
theorem dX10_restore_49 : decode cX10_restore 49 = .ok (.imul, 1) := by decide +kernel
theorem dX10_restore_50 : decode cX10_restore 50 = .ok (.iload_n 2, 1) := by decide +kernel
theorem dX10_restore_51 : decode cX10_restore 51 = .ok (.iadd, 1) := by decide +kernel
theorem dX10_restore_52 : decode cX10_restore 52 = .ok (.iaload, 1) := by decide +kernel
theorem dX10_restore_53 : decode cX10_restore 53 = .ok (.iastore, 1) := by decide +kernel
theorem dX10_restore_54 : decode cX10_restore 54 = .ok (.iinc 2 1, 3) := by decide +kernel
theorem dX10_restore_57 : decode cX10_restore 57 = .ok (.goto (-26), 3) := by decide +kernel
theorem dX10_restore_60 : decode cX10_restore 60 = .ok (.aload_n 0, 1) := by decide +kernel
theorem dX10_restore_61 : decode cX10_restore 61 = .ok (.iconst 0, 1) := by decide +kernel
theorem dX10_restore_62 : decode cX10_restore 62 = .ok (.putfield 130, 3) := by decide +kernel
theorem dX10_restore_65 : decode cX10_restore 65 = .ok (.aload_n 0, 1) := by decide +kernel
theorem dX10_restore_66 : decode cX10_restore 66 = .ok (.getfield 7, 3) := by decide +kernel
theorem dX10_restore_69 : decode cX10_restore 69 = .ok (.iconst 1, 1) := by decide +kernel
theorem dX10_restore_70 : decode cX10_restore 70 = .ok (.iaload, 1) := by decide +kernel
theorem dX10_restore_71 : decode cX10_restore 71 = .ok (.ireturn, 1) := by decide +kernel
theorem dX10_asides_0 : decode cX10_asides 0 = .ok (.iconst 0, 1) := by decide +kernel
theorem dX10_asides_1 : decode cX10_asides 1 = .ok (.istore_n 1, 1) := by decide +kernel
theorem dX10_asides_2 : decode cX10_asides 2 = .ok (.iload_n 1, 1) := by decide +kernel
theorem dX10_asides_3 : decode cX10_asides 3 = .ok (.bipush 52, 2) := by decide +kernel
theorem dX10_asides_5 : decode cX10_asides 5 = .ok (.if_icmp .ge 21, 3) := by decide +kernel
theorem dX10_asides_8 : decode cX10_asides 8 = .ok (.aload_n 0, 1) := by decide +kernel
theorem dX10_asides_9 : decode cX10_asides 9 = .ok (.getfield 25, 3) := by decide +kernel
theorem dX10_asides_12 : decode cX10_asides 12 = .ok (.iload_n 1, 1) := by decide +kernel
theorem dX10_asides_13 : decode cX10_asides 13 = .ok (.aload_n 0, 1) := by decide +kernel
theorem dX10_asides_14 : decode cX10_asides 14 = .ok (.getfield 7, 3) := by decide +kernel
theorem dX10_asides_17 : decode cX10_asides 17 = .ok (.iload_n 1, 1) := by decide +kernel
theorem dX10_asides_18 : decode cX10_asides 18 = .ok (.iaload, 1) := by decide +kernel
theorem dX10_asides_19 : decode cX10_asides 19 = .ok (.iastore, 1) := by decide +kernel
theorem dX10_asides_20 : decode cX10_asides 20 = .ok (.iinc 1 1, 3) := by decide +kernel
theorem dX10_asides_23 : decode cX10_asides 23 = .ok (.goto (-21), 3) := by decide +kernel
theorem dX10_asides_26 : decode cX10_asides 26 = .ok (.return_, 1) := by decide +kernel
theorem dX10_backs_0 : decode cX10_backs 0 = .ok (.iconst 0, 1) := by decide +kernel
theorem dX10_backs_1 : decode cX10_backs 1 = .ok (.istore_n 1, 1) := by decide +kernel
theorem dX10_backs_2 : decode cX10_backs 2 = .ok (.iload_n 1, 1) := by decide +kernel
theorem dX10_backs_3 : decode cX10_backs 3 = .ok (.bipush 52, 2) := by decide +kernel
theorem dX10_backs_5 : decode cX10_backs 5 = .ok (.if_icmp .ge 21, 3) := by decide +kernel
theorem dX10_backs_8 : decode cX10_backs 8 = .ok (.aload_n 0, 1) := by decide +kernel
theorem dX10_backs_9 : decode cX10_backs 9 = .ok (.getfield 7, 3) := by decide +kernel
theorem dX10_backs_12 : decode cX10_backs 12 = .ok (.iload_n 1, 1) := by decide +kernel
theorem dX10_backs_13 : decode cX10_backs 13 = .ok (.aload_n 0, 1) := by decide +kernel
theorem dX10_backs_14 : decode cX10_backs 14 = .ok (.getfield 25, 3) := by decide +kernel
theorem dX10_backs_17 : decode cX10_backs 17 = .ok (.iload_n 1, 1) := by decide +kernel
theorem dX10_backs_18 : decode cX10_backs 18 = .ok (.iaload, 1) := by decide +kernel
theorem dX10_backs_19 : decode cX10_backs 19 = .ok (.iastore, 1) := by decide +kernel
theorem dX10_backs_20 : decode cX10_backs 20 = .ok (.iinc 1 1, 3) := by decide +kernel
theorem dX10_backs_23 : decode cX10_backs 23 = .ok (.goto (-21), 3) := by decide +kernel
theorem dX10_backs_26 : decode cX10_backs 26 = .ok (.return_, 1) := by decide +kernel
theorem dX10_next_0 : decode cX10_next 0 = .ok (.iload_n 1, 1) := by decide +kernel
theorem dX10_next_1 : decode cX10_next 1 = .ok (.bipush 8, 2) := by decide +kernel
theorem dX10_next_3 : decode cX10_next 3 = .ok (.idiv, 1) := by decide +kernel
theorem dX10_next_4 : decode cX10_next 4 = .ok (.istore_n 3, 1) := by decide +kernel
theorem dX10_next_5 : decode cX10_next 5 = .ok (.iload_n 1, 1) := by decide +kernel
theorem dX10_next_6 : decode cX10_next 6 = .ok (.bipush 8, 2) := by decide +kernel
theorem dX10_next_8 : decode cX10_next 8 = .ok (.irem, 1) := by decide +kernel
theorem dX10_next_9 : decode cX10_next 9 = .ok (.istore 4, 2) := by decide +kernel
theorem dX10_next_11 : decode cX10_next 11 = .ok (.iload_n 2, 1) := by decide +kernel
theorem dX10_next_12 : decode cX10_next 12 = .ok (.iconst 2, 1) := by decide +kernel
theorem dX10_next_13 : decode cX10_next 13 = .ok (.if_icmp .ne 11, 3) := by decide +kernel
theorem dX10_next_16 : decode cX10_next 16 = .ok (.bipush 8, 2) := by decide +kernel
theorem dX10_next_18 : decode cX10_next 18 = .ok (.iload 4, 2) := by decide +kernel
theorem dX10_next_20 : decode cX10_next 20 = .ok (.imul, 1) := by decide +kernel
theorem dX10_next_21 : decode cX10_next 21 = .ok (.iload_n 3, 1) := by decide +kernel
theorem dX10_next_22 : decode cX10_next 22 = .ok (.iadd, 1) := by decide +kernel
theorem dX10_next_23 : decode cX10_next 23 = .ok (.ireturn, 1) := by decide +kernel
theorem dX10_next_24 : decode cX10_next 24 = .ok (.aload_n 0, 1) := by decide +kernel
theorem dX10_next_25 : decode cX10_next 25 = .ok (.getfield 7, 3) := by decide +kernel
theorem dX10_next_28 : decode cX10_next 28 = .ok (.bipush 44, 2) := by decide +kernel
theorem dX10_next_30 : decode cX10_next 30 = .ok (.aload_n 0, 1) := by decide +kernel
theorem dX10_next_31 : decode cX10_next 31 = .ok (.getfield 7, 3) := by decide +kernel
theorem dX10_next_34 : decode cX10_next 34 = .ok (.iconst 0, 1) := by decide +kernel
theorem dX10_next_35 : decode cX10_next 35 = .ok (.iaload, 1) := by decide +kernel
theorem dX10_next_36 : decode cX10_next 36 = .ok (.iload_n 3, 1) := by decide +kernel
theorem dX10_next_37 : decode cX10_next 37 = .ok (.iload 4, 2) := by decide +kernel
theorem dX10_next_39 : decode cX10_next 39 = .ok (.iload_n 2, 1) := by decide +kernel
theorem dX10_next_40 : decode cX10_next 40 = .ok (.invokestatic 155, 3) := by decide +kernel
theorem dX10_next_43 : decode cX10_next 43 = .ok (.istore 5, 2) := by decide +kernel
theorem dX10_next_45 : decode cX10_next 45 = .ok (.iload 5, 2) := by decide +kernel
theorem dX10_next_47 : decode cX10_next 47 = .ok (.bipush (-4), 2) := by decide +kernel
theorem dX10_next_49 : decode cX10_next 49 = .ok (.if_icmp .eq 12, 3) := by decide +kernel
theorem dX10_next_52 : decode cX10_next 52 = .ok (.aload_n 0, 1) := by decide +kernel
theorem dX10_next_53 : decode cX10_next 53 = .ok (.iload 5, 2) := by decide +kernel
theorem dX10_next_55 : decode cX10_next 55 = .ok (.invokevirtual 142, 3) := by decide +kernel
theorem dX10_next_58 : decode cX10_next 58 = .ok (.ifCond .eq 8, 3) := by decide +kernel
theorem dX10_next_61 : decode cX10_next 61 = .ok (.bipush (-4), 2) := by decide +kernel
theorem dX10_next_63 : decode cX10_next 63 = .ok (.goto 10, 3) := by decide +kernel
theorem dX10_next_66 : decode cX10_next 66 = .ok (.bipush 8, 2) := by decide +kernel
theorem dX10_next_68 : decode cX10_next 68 = .ok (.iload 5, 2) := by decide +kernel
theorem dX10_next_70 : decode cX10_next 70 = .ok (.imul, 1) := by decide +kernel
theorem dX10_next_71 : decode cX10_next 71 = .ok (.iload_n 3, 1) := by decide +kernel
theorem dX10_next_72 : decode cX10_next 72 = .ok (.iadd, 1) := by decide +kernel
theorem dX10_next_73 : decode cX10_next 73 = .ok (.ireturn, 1) := by decide +kernel
theorem dX10_stateNow_0 : decode cX10_stateNow 0 = .ok (.bipush 8, 2) := by decide +kernel
theorem dX10_stateNow_2 : decode cX10_stateNow 2 = .ok (.aload_n 0, 1) := by decide +kernel
theorem dX10_stateNow_3 : decode cX10_stateNow 3 = .ok (.getfield 7, 3) := by decide +kernel
theorem dX10_stateNow_6 : decode cX10_stateNow 6 = .ok (.iconst 1, 1) := by decide +kernel
theorem dX10_stateNow_7 : decode cX10_stateNow 7 = .ok (.iaload, 1) := by decide +kernel
theorem dX10_stateNow_8 : decode cX10_stateNow 8 = .ok (.imul, 1) := by decide +kernel
theorem dX10_stateNow_9 : decode cX10_stateNow 9 = .ok (.aload_n 0, 1) := by decide +kernel
theorem dX10_stateNow_10 : decode cX10_stateNow 10 = .ok (.getfield 7, 3) := by decide +kernel
theorem dX10_stateNow_13 : decode cX10_stateNow 13 = .ok (.iconst 2, 1) := by decide +kernel
theorem dX10_stateNow_14 : decode cX10_stateNow 14 = .ok (.iaload, 1) := by decide +kernel
theorem dX10_stateNow_15 : decode cX10_stateNow 15 = .ok (.iadd, 1) := by decide +kernel
theorem dX10_stateNow_16 : decode cX10_stateNow 16 = .ok (.ireturn, 1) := by decide +kernel
theorem dX10_reach_0 : decode cX10_reach 0 = .ok (.aload_n 0, 1) := by decide +kernel
theorem dX10_reach_1 : decode cX10_reach 1 = .ok (.invokevirtual 159, 3) := by decide +kernel
theorem dX10_reach_4 : decode cX10_reach 4 = .ok (.ifCond .ne 6, 3) := by decide +kernel
theorem dX10_reach_7 : decode cX10_reach 7 = .ok (.bipush (-2), 2) := by decide +kernel
theorem dX10_reach_9 : decode cX10_reach 9 = .ok (.ireturn, 1) := by decide +kernel
theorem dX10_reach_10 : decode cX10_reach 10 = .ok (.iconst 0, 1) := by decide +kernel
theorem dX10_reach_11 : decode cX10_reach 11 = .ok (.istore_n 1, 1) := by decide +kernel
theorem dX10_reach_12 : decode cX10_reach 12 = .ok (.iload_n 1, 1) := by decide +kernel
theorem dX10_reach_13 : decode cX10_reach 13 = .ok (.bipush 64, 2) := by decide +kernel
theorem dX10_reach_15 : decode cX10_reach 15 = .ok (.if_icmp .ge 16, 3) := by decide +kernel
theorem dX10_reach_18 : decode cX10_reach 18 = .ok (.aload_n 0, 1) := by decide +kernel
theorem dX10_reach_19 : decode cX10_reach 19 = .ok (.getfield 31, 3) := by decide +kernel
theorem dX10_reach_22 : decode cX10_reach 22 = .ok (.iload_n 1, 1) := by decide +kernel
theorem dX10_reach_23 : decode cX10_reach 23 = .ok (.iconst 0, 1) := by decide +kernel
theorem dX10_reach_24 : decode cX10_reach 24 = .ok (.bastore, 1) := by decide +kernel
theorem dX10_reach_25 : decode cX10_reach 25 = .ok (.iinc 1 1, 3) := by decide +kernel
theorem dX10_reach_28 : decode cX10_reach 28 = .ok (.goto (-16), 3) := by decide +kernel
theorem dX10_reach_31 : decode cX10_reach 31 = .ok (.iconst 0, 1) := by decide +kernel
theorem dX10_reach_32 : decode cX10_reach 32 = .ok (.istore_n 1, 1) := by decide +kernel
theorem dX10_reach_33 : decode cX10_reach 33 = .ok (.iconst 1, 1) := by decide +kernel
theorem dX10_reach_34 : decode cX10_reach 34 = .ok (.istore_n 2, 1) := by decide +kernel
theorem dX10_reach_35 : decode cX10_reach 35 = .ok (.aload_n 0, 1) := by decide +kernel
theorem dX10_reach_36 : decode cX10_reach 36 = .ok (.getfield 28, 3) := by decide +kernel
theorem dX10_reach_39 : decode cX10_reach 39 = .ok (.iconst 0, 1) := by decide +kernel
theorem dX10_reach_40 : decode cX10_reach 40 = .ok (.aload_n 0, 1) := by decide +kernel
theorem dX10_reach_41 : decode cX10_reach 41 = .ok (.invokevirtual 177, 3) := by decide +kernel
theorem dX10_reach_44 : decode cX10_reach 44 = .ok (.iastore, 1) := by decide +kernel
theorem dX10_reach_45 : decode cX10_reach 45 = .ok (.aload_n 0, 1) := by decide +kernel
theorem dX10_reach_46 : decode cX10_reach 46 = .ok (.getfield 31, 3) := by decide +kernel
theorem dX10_reach_49 : decode cX10_reach 49 = .ok (.aload_n 0, 1) := by decide +kernel
theorem dX10_reach_50 : decode cX10_reach 50 = .ok (.getfield 28, 3) := by decide +kernel
theorem dX10_reach_53 : decode cX10_reach 53 = .ok (.iconst 0, 1) := by decide +kernel
theorem dX10_reach_54 : decode cX10_reach 54 = .ok (.iaload, 1) := by decide +kernel
theorem dX10_reach_55 : decode cX10_reach 55 = .ok (.iconst 1, 1) := by decide +kernel
theorem dX10_reach_56 : decode cX10_reach 56 = .ok (.bastore, 1) := by decide +kernel
theorem dX10_reach_57 : decode cX10_reach 57 = .ok (.iconst 0, 1) := by decide +kernel
theorem dX10_reach_58 : decode cX10_reach 58 = .ok (.istore_n 3, 1) := by decide +kernel
theorem dX10_reach_59 : decode cX10_reach 59 = .ok (.iload_n 3, 1) := by decide +kernel
theorem dX10_reach_60 : decode cX10_reach 60 = .ok (.iload_n 2, 1) := by decide +kernel
theorem dX10_reach_61 : decode cX10_reach 61 = .ok (.if_icmp .ge 88, 3) := by decide +kernel
theorem dX10_reach_64 : decode cX10_reach 64 = .ok (.iload_n 1, 1) := by decide +kernel
theorem dX10_reach_65 : decode cX10_reach 65 = .ok (.iconst 1, 1) := by decide +kernel
theorem dX10_reach_66 : decode cX10_reach 66 = .ok (.aload_n 0, 1) := by decide +kernel
theorem dX10_reach_67 : decode cX10_reach 67 = .ok (.getfield 28, 3) := by decide +kernel
theorem dX10_reach_70 : decode cX10_reach 70 = .ok (.iload_n 3, 1) := by decide +kernel
theorem dX10_reach_71 : decode cX10_reach 71 = .ok (.iaload, 1) := by decide +kernel
theorem dX10_reach_72 : decode cX10_reach 72 = .ok (.bipush 8, 2) := by decide +kernel
theorem dX10_reach_74 : decode cX10_reach 74 = .ok (.idiv, 1) := by decide +kernel
theorem dX10_reach_75 : decode cX10_reach 75 = .ok (.ishl, 1) := by decide +kernel
theorem dX10_reach_76 : decode cX10_reach 76 = .ok (.ior, 1) := by decide +kernel
theorem dX10_reach_77 : decode cX10_reach 77 = .ok (.istore_n 1, 1) := by decide +kernel
theorem dX10_reach_78 : decode cX10_reach 78 = .ok (.iconst 0, 1) := by decide +kernel
theorem dX10_reach_79 : decode cX10_reach 79 = .ok (.istore 4, 2) := by decide +kernel
theorem dX10_reach_81 : decode cX10_reach 81 = .ok (.iload 4, 2) := by decide +kernel
theorem dX10_reach_83 : decode cX10_reach 83 = .ok (.iconst 3, 1) := by decide +kernel
theorem dX10_reach_84 : decode cX10_reach 84 = .ok (.if_icmp .ge 59, 3) := by decide +kernel
theorem dX10_reach_87 : decode cX10_reach 87 = .ok (.aload_n 0, 1) := by decide +kernel
theorem dX10_reach_88 : decode cX10_reach 88 = .ok (.aload_n 0, 1) := by decide +kernel
theorem dX10_reach_89 : decode cX10_reach 89 = .ok (.getfield 28, 3) := by decide +kernel
theorem dX10_reach_92 : decode cX10_reach 92 = .ok (.iload_n 3, 1) := by decide +kernel
theorem dX10_reach_93 : decode cX10_reach 93 = .ok (.iaload, 1) := by decide +kernel
theorem dX10_reach_94 : decode cX10_reach 94 = .ok (.iload 4, 2) := by decide +kernel
theorem dX10_reach_96 : decode cX10_reach 96 = .ok (.invokevirtual 180, 3) := by decide +kernel
theorem dX10_reach_99 : decode cX10_reach 99 = .ok (.istore 5, 2) := by decide +kernel
theorem dX10_reach_101 : decode cX10_reach 101 = .ok (.iload 5, 2) := by decide +kernel
theorem dX10_reach_103 : decode cX10_reach 103 = .ok (.bipush (-4), 2) := by decide +kernel
theorem dX10_reach_105 : decode cX10_reach 105 = .ok (.if_icmp .eq 32, 3) := by decide +kernel
theorem dX10_reach_108 : decode cX10_reach 108 = .ok (.aload_n 0, 1) := by decide +kernel
theorem dX10_reach_109 : decode cX10_reach 109 = .ok (.getfield 31, 3) := by decide +kernel
theorem dX10_reach_112 : decode cX10_reach 112 = .ok (.iload 5, 2) := by decide +kernel
theorem dX10_reach_114 : decode cX10_reach 114 = .ok (.baload, 1) := by decide +kernel
theorem dX10_reach_115 : decode cX10_reach 115 = .ok (.ifCond .ne 22, 3) := by decide +kernel
theorem dX10_reach_118 : decode cX10_reach 118 = .ok (.aload_n 0, 1) := by decide +kernel
theorem dX10_reach_119 : decode cX10_reach 119 = .ok (.getfield 31, 3) := by decide +kernel
theorem dX10_reach_122 : decode cX10_reach 122 = .ok (.iload 5, 2) := by decide +kernel
theorem dX10_reach_124 : decode cX10_reach 124 = .ok (.iconst 1, 1) := by decide +kernel
theorem dX10_reach_125 : decode cX10_reach 125 = .ok (.bastore, 1) := by decide +kernel
theorem dX10_reach_126 : decode cX10_reach 126 = .ok (.aload_n 0, 1) := by decide +kernel
theorem dX10_reach_127 : decode cX10_reach 127 = .ok (.getfield 28, 3) := by decide +kernel
theorem dX10_reach_130 : decode cX10_reach 130 = .ok (.iload_n 2, 1) := by decide +kernel
theorem dX10_reach_131 : decode cX10_reach 131 = .ok (.iload 5, 2) := by decide +kernel
theorem dX10_reach_133 : decode cX10_reach 133 = .ok (.iastore, 1) := by decide +kernel
theorem dX10_reach_134 : decode cX10_reach 134 = .ok (.iinc 2 1, 3) := by decide +kernel
theorem dX10_reach_137 : decode cX10_reach 137 = .ok (.iinc 4 1, 3) := by decide +kernel
theorem dX10_reach_140 : decode cX10_reach 140 = .ok (.goto (-59), 3) := by decide +kernel
theorem dX10_reach_143 : decode cX10_reach 143 = .ok (.iinc 3 1, 3) := by decide +kernel
theorem dX10_reach_146 : decode cX10_reach 146 = .ok (.goto (-87), 3) := by decide +kernel
theorem dX10_reach_149 : decode cX10_reach 149 = .ok (.iload_n 1, 1) := by decide +kernel
theorem dX10_reach_150 : decode cX10_reach 150 = .ok (.ireturn, 1) := by decide +kernel
theorem dX10_costOf_0 : decode cX10_costOf 0 = .ok (.aload_n 0, 1) := by decide +kernel
theorem dX10_costOf_1 : decode cX10_costOf 1 = .ok (.iload_n 1, 1) := by decide +kernel
theorem dX10_costOf_2 : decode cX10_costOf 2 = .ok (.iload_n 2, 1) := by decide +kernel
theorem dX10_costOf_3 : decode cX10_costOf 3 = .ok (.invokevirtual 180, 3) := by decide +kernel
theorem dX10_costOf_6 : decode cX10_costOf 6 = .ok (.istore_n 3, 1) := by decide +kernel
theorem dX10_costOf_7 : decode cX10_costOf 7 = .ok (.iload_n 3, 1) := by decide +kernel
theorem dX10_costOf_8 : decode cX10_costOf 8 = .ok (.bipush (-4), 2) := by decide +kernel
theorem dX10_costOf_10 : decode cX10_costOf 10 = .ok (.if_icmp .ne 8, 3) := by decide +kernel
theorem dX10_costOf_13 : decode cX10_costOf 13 = .ok (.ldc 183, 2) := by decide +kernel
theorem dX10_costOf_15 : decode cX10_costOf 15 = .ok (.goto 37, 3) := by decide +kernel
theorem dX10_costOf_18 : decode cX10_costOf 18 = .ok (.sipush 1001, 3) := by decide +kernel
theorem dX10_costOf_21 : decode cX10_costOf 21 = .ok (.sipush 1000, 3) := by decide +kernel
theorem dX10_costOf_24 : decode cX10_costOf 24 = .ok (.iload_n 2, 1) := by decide +kernel
theorem dX10_costOf_25 : decode cX10_costOf 25 = .ok (.iconst 2, 1) := by decide +kernel
theorem dX10_costOf_26 : decode cX10_costOf 26 = .ok (.if_icmp .ne 7, 3) := by decide +kernel
theorem dX10_costOf_29 : decode cX10_costOf 29 = .ok (.iconst 0, 1) := by decide +kernel
theorem dX10_costOf_30 : decode cX10_costOf 30 = .ok (.goto 13, 3) := by decide +kernel
theorem dX10_costOf_33 : decode cX10_costOf 33 = .ok (.aload_n 0, 1) := by decide +kernel
theorem dX10_costOf_34 : decode cX10_costOf 34 = .ok (.iload_n 3, 1) := by decide +kernel
theorem dX10_costOf_35 : decode cX10_costOf 35 = .ok (.bipush 8, 2) := by decide +kernel
theorem dX10_costOf_37 : decode cX10_costOf 37 = .ok (.idiv, 1) := by decide +kernel
theorem dX10_costOf_38 : decode cX10_costOf 38 = .ok (.invokevirtual 139, 3) := by decide +kernel
theorem dX10_costOf_41 : decode cX10_costOf 41 = .ok (.iconst 1, 1) := by decide +kernel
theorem dX10_costOf_42 : decode cX10_costOf 42 = .ok (.isub, 1) := by decide +kernel
theorem dX10_costOf_43 : decode cX10_costOf 43 = .ok (.imul, 1) := by decide +kernel
theorem dX10_costOf_44 : decode cX10_costOf 44 = .ok (.iadd, 1) := by decide +kernel
theorem dX10_costOf_45 : decode cX10_costOf 45 = .ok (.aload_n 0, 1) := by decide +kernel
theorem dX10_costOf_46 : decode cX10_costOf 46 = .ok (.getfield 35, 3) := by decide +kernel
theorem dX10_costOf_49 : decode cX10_costOf 49 = .ok (.iload_n 3, 1) := by decide +kernel
theorem dX10_costOf_50 : decode cX10_costOf 50 = .ok (.iaload, 1) := by decide +kernel
theorem dX10_costOf_51 : decode cX10_costOf 51 = .ok (.iadd, 1) := by decide +kernel
theorem dX10_costOf_52 : decode cX10_costOf 52 = .ok (.ireturn, 1) := by decide +kernel
theorem dX10_measures_0 : decode cX10_measures 0 = .ok (.iconst 0, 1) := by decide +kernel
theorem dX10_measures_1 : decode cX10_measures 1 = .ok (.istore_n 2, 1) := by decide +kernel
theorem dX10_measures_2 : decode cX10_measures 2 = .ok (.iload_n 2, 1) := by decide +kernel
theorem dX10_measures_3 : decode cX10_measures 3 = .ok (.bipush 64, 2) := by decide +kernel
theorem dX10_measures_5 : decode cX10_measures 5 = .ok (.if_icmp .ge 29, 3) := by decide +kernel
theorem dX10_measures_8 : decode cX10_measures 8 = .ok (.aload_n 0, 1) := by decide +kernel
theorem dX10_measures_9 : decode cX10_measures 9 = .ok (.getfield 35, 3) := by decide +kernel
theorem dX10_measures_12 : decode cX10_measures 12 = .ok (.iload_n 2, 1) := by decide +kernel
theorem dX10_measures_13 : decode cX10_measures 13 = .ok (.iload_n 2, 1) := by decide +kernel
theorem dX10_measures_14 : decode cX10_measures 14 = .ok (.bipush 8, 2) := by decide +kernel
theorem dX10_measures_16 : decode cX10_measures 16 = .ok (.idiv, 1) := by decide +kernel
theorem dX10_measures_17 : decode cX10_measures 17 = .ok (.iload_n 1, 1) := by decide +kernel
theorem dX10_measures_18 : decode cX10_measures 18 = .ok (.if_icmp .ne 7, 3) := by decide +kernel
theorem dX10_measures_21 : decode cX10_measures 21 = .ok (.iconst 0, 1) := by decide +kernel
theorem dX10_measures_22 : decode cX10_measures 22 = .ok (.goto 5, 3) := by decide +kernel
theorem dX10_measures_25 : decode cX10_measures 25 = .ok (.ldc 183, 2) := by decide +kernel
theorem dX10_measures_27 : decode cX10_measures 27 = .ok (.iastore, 1) := by decide +kernel
theorem dX10_measures_28 : decode cX10_measures 28 = .ok (.iinc 2 1, 3) := by decide +kernel
theorem dX10_measures_31 : decode cX10_measures 31 = .ok (.goto (-29), 3) := by decide +kernel
theorem dX10_measures_34 : decode cX10_measures 34 = .ok (.iconst 1, 1) := by decide +kernel
theorem dX10_measures_35 : decode cX10_measures 35 = .ok (.istore_n 2, 1) := by decide +kernel
theorem dX10_measures_36 : decode cX10_measures 36 = .ok (.iload_n 2, 1) := by decide +kernel
theorem dX10_measures_37 : decode cX10_measures 37 = .ok (.ifCond .eq 143, 3) := by decide +kernel
theorem dX10_measures_40 : decode cX10_measures 40 = .ok (.iconst 0, 1) := by decide +kernel
theorem dX10_measures_41 : decode cX10_measures 41 = .ok (.istore_n 2, 1) := by decide +kernel
theorem dX10_measures_42 : decode cX10_measures 42 = .ok (.iconst 0, 1) := by decide +kernel
theorem dX10_measures_43 : decode cX10_measures 43 = .ok (.istore_n 3, 1) := by decide +kernel
theorem dX10_measures_44 : decode cX10_measures 44 = .ok (.iload_n 3, 1) := by decide +kernel
theorem dX10_measures_45 : decode cX10_measures 45 = .ok (.bipush 64, 2) := by decide +kernel
theorem dX10_measures_47 : decode cX10_measures 47 = .ok (.if_icmp .ge 130, 3) := by decide +kernel
theorem dX10_measures_50 : decode cX10_measures 50 = .ok (.iload_n 3, 1) := by decide +kernel
theorem dX10_measures_51 : decode cX10_measures 51 = .ok (.bipush 8, 2) := by decide +kernel
theorem dX10_measures_53 : decode cX10_measures 53 = .ok (.idiv, 1) := by decide +kernel
theorem dX10_measures_54 : decode cX10_measures 54 = .ok (.aload_n 0, 1) := by decide +kernel
theorem dX10_measures_55 : decode cX10_measures 55 = .ok (.getfield 7, 3) := by decide +kernel
theorem dX10_measures_58 : decode cX10_measures 58 = .ok (.iconst 0, 1) := by decide +kernel
theorem dX10_measures_59 : decode cX10_measures 59 = .ok (.iaload, 1) := by decide +kernel
theorem dX10_measures_60 : decode cX10_measures 60 = .ok (.if_icmp .ge 30, 3) := by decide +kernel
theorem dX10_measures_63 : decode cX10_measures 63 = .ok (.aload_n 0, 1) := by decide +kernel
theorem dX10_measures_64 : decode cX10_measures 64 = .ok (.getfield 7, 3) := by decide +kernel
theorem dX10_measures_67 : decode cX10_measures 67 = .ok (.bipush 44, 2) := by decide +kernel
theorem dX10_measures_69 : decode cX10_measures 69 = .ok (.iload_n 3, 1) := by decide +kernel
theorem dX10_measures_70 : decode cX10_measures 70 = .ok (.bipush 8, 2) := by decide +kernel
theorem dX10_measures_72 : decode cX10_measures 72 = .ok (.idiv, 1) := by decide +kernel
theorem dX10_measures_73 : decode cX10_measures 73 = .ok (.iadd, 1) := by decide +kernel
theorem dX10_measures_74 : decode cX10_measures 74 = .ok (.iaload, 1) := by decide +kernel
theorem dX10_measures_75 : decode cX10_measures 75 = .ok (.iload_n 3, 1) := by decide +kernel
theorem dX10_measures_76 : decode cX10_measures 76 = .ok (.bipush 8, 2) := by decide +kernel
theorem dX10_measures_78 : decode cX10_measures 78 = .ok (.irem, 1) := by decide +kernel
theorem dX10_measures_79 : decode cX10_measures 79 = .ok (.ishr, 1) := by decide +kernel
theorem dX10_measures_80 : decode cX10_measures 80 = .ok (.iconst 1, 1) := by decide +kernel
theorem dX10_measures_81 : decode cX10_measures 81 = .ok (.iand, 1) := by decide +kernel
theorem dX10_measures_82 : decode cX10_measures 82 = .ok (.iconst 1, 1) := by decide +kernel
theorem dX10_measures_83 : decode cX10_measures 83 = .ok (.if_icmp .ne 7, 3) := by decide +kernel
theorem dX10_measures_86 : decode cX10_measures 86 = .ok (.iconst 1, 1) := by decide +kernel
theorem dX10_measures_87 : decode cX10_measures 87 = .ok (.goto 4, 3) := by decide +kernel
theorem dX10_measures_90 : decode cX10_measures 90 = .ok (.iconst 0, 1) := by decide +kernel
theorem dX10_measures_91 : decode cX10_measures 91 = .ok (.istore 4, 2) := by decide +kernel
theorem dX10_measures_93 : decode cX10_measures 93 = .ok (.iconst 0, 1) := by decide +kernel
theorem dX10_measures_94 : decode cX10_measures 94 = .ok (.istore 5, 2) := by decide +kernel
theorem dX10_measures_96 : decode cX10_measures 96 = .ok (.iload 5, 2) := by decide +kernel
theorem dX10_measures_98 : decode cX10_measures 98 = .ok (.iconst 3, 1) := by decide +kernel
theorem dX10_measures_99 : decode cX10_measures 99 = .ok (.if_icmp .ge 72, 3) := by decide +kernel
theorem dX10_measures_102 : decode cX10_measures 102 = .ok (.iload 4, 2) := by decide +kernel
theorem dX10_measures_104 : decode cX10_measures 104 = .ok (.ifCond .eq 67, 3) := by decide +kernel
theorem dX10_measures_107 : decode cX10_measures 107 = .ok (.aload_n 0, 1) := by decide +kernel
theorem dX10_measures_108 : decode cX10_measures 108 = .ok (.iload_n 3, 1) := by decide +kernel
theorem dX10_measures_109 : decode cX10_measures 109 = .ok (.iload 5, 2) := by decide +kernel
theorem dX10_measures_111 : decode cX10_measures 111 = .ok (.invokevirtual 184, 3) := by decide +kernel
theorem dX10_measures_114 : decode cX10_measures 114 = .ok (.istore 6, 2) := by decide +kernel
theorem dX10_measures_116 : decode cX10_measures 116 = .ok (.iload_n 2, 1) := by decide +kernel
theorem dX10_measures_117 : decode cX10_measures 117 = .ok (.ifCond .ne 14, 3) := by decide +kernel
theorem dX10_measures_120 : decode cX10_measures 120 = .ok (.iload 6, 2) := by decide +kernel
theorem dX10_measures_122 : decode cX10_measures 122 = .ok (.aload_n 0, 1) := by decide +kernel
theorem dX10_measures_123 : decode cX10_measures 123 = .ok (.getfield 35, 3) := by decide +kernel
theorem dX10_measures_126 : decode cX10_measures 126 = .ok (.iload_n 3, 1) := by decide +kernel
theorem dX10_measures_127 : decode cX10_measures 127 = .ok (.iaload, 1) := by decide +kernel
theorem dX10_measures_128 : decode cX10_measures 128 = .ok (.if_icmp .ge 7, 3) := by decide +kernel
theorem dX10_measures_131 : decode cX10_measures 131 = .ok (.iconst 1, 1) := by decide +kernel
theorem dX10_measures_132 : decode cX10_measures 132 = .ok (.goto 4, 3) := by decide +kernel
theorem dX10_measures_135 : decode cX10_measures 135 = .ok (.iconst 0, 1) := by decide +kernel
theorem dX10_measures_136 : decode cX10_measures 136 = .ok (.istore_n 2, 1) := by decide +kernel
theorem dX10_measures_137 : decode cX10_measures 137 = .ok (.aload_n 0, 1) := by decide +kernel
theorem dX10_measures_138 : decode cX10_measures 138 = .ok (.getfield 35, 3) := by decide +kernel
theorem dX10_measures_141 : decode cX10_measures 141 = .ok (.iload_n 3, 1) := by decide +kernel
theorem dX10_measures_142 : decode cX10_measures 142 = .ok (.iload 6, 2) := by decide +kernel
theorem dX10_measures_144 : decode cX10_measures 144 = .ok (.aload_n 0, 1) := by decide +kernel
theorem dX10_measures_145 : decode cX10_measures 145 = .ok (.getfield 35, 3) := by decide +kernel
theorem dX10_measures_148 : decode cX10_measures 148 = .ok (.iload_n 3, 1) := by decide +kernel
theorem dX10_measures_149 : decode cX10_measures 149 = .ok (.iaload, 1) := by decide +kernel
theorem dX10_measures_150 : decode cX10_measures 150 = .ok (.if_icmp .ge 8, 3) := by decide +kernel
theorem dX10_measures_153 : decode cX10_measures 153 = .ok (.iload 6, 2) := by decide +kernel
theorem dX10_measures_155 : decode cX10_measures 155 = .ok (.goto 9, 3) := by decide +kernel
theorem dX10_measures_158 : decode cX10_measures 158 = .ok (.aload_n 0, 1) := by decide +kernel
theorem dX10_measures_159 : decode cX10_measures 159 = .ok (.getfield 35, 3) := by decide +kernel
theorem dX10_measures_162 : decode cX10_measures 162 = .ok (.iload_n 3, 1) := by decide +kernel
theorem dX10_measures_163 : decode cX10_measures 163 = .ok (.iaload, 1) := by decide +kernel
theorem dX10_measures_164 : decode cX10_measures 164 = .ok (.iastore, 1) := by decide +kernel
theorem dX10_measures_165 : decode cX10_measures 165 = .ok (.iinc 5 1, 3) := by decide +kernel
theorem dX10_measures_168 : decode cX10_measures 168 = .ok (.goto (-72), 3) := by decide +kernel
theorem dX10_measures_171 : decode cX10_measures 171 = .ok (.iinc 3 1, 3) := by decide +kernel
theorem dX10_measures_174 : decode cX10_measures 174 = .ok (.goto (-130), 3) := by decide +kernel
theorem dX10_measures_177 : decode cX10_measures 177 = .ok (.goto (-141), 3) := by decide +kernel
theorem dX10_measures_180 : decode cX10_measures 180 = .ok (.return_, 1) := by decide +kernel
theorem dX10_way_0 : decode cX10_way 0 = .ok (.aload_n 0, 1) := by decide +kernel
theorem dX10_way_1 : decode cX10_way 1 = .ok (.iload_n 1, 1) := by decide +kernel
theorem dX10_way_2 : decode cX10_way 2 = .ok (.invokevirtual 136, 3) := by decide +kernel
theorem dX10_way_5 : decode cX10_way 5 = .ok (.ifCond .eq 9, 3) := by decide +kernel
theorem dX10_way_8 : decode cX10_way 8 = .ok (.iload_n 2, 1) := by decide +kernel
theorem dX10_way_9 : decode cX10_way 9 = .ok (.bipush (-2), 2) := by decide +kernel
theorem dX10_way_11 : decode cX10_way 11 = .ok (.if_icmp .ge 5, 3) := by decide +kernel
theorem dX10_way_14 : decode cX10_way 14 = .ok (.iconst (-1), 1) := by decide +kernel
