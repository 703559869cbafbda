theorem dX4_init_0 : decode cX4_init 0 = .ok (.aload_n 0, 1) := by decide +kernel
theorem dX4_init_1 : decode cX4_init 1 = .ok (.invokespecial 5, 3) := by decide +kernel
theorem dX4_init_4 : decode cX4_init 4 = .ok (.aload_n 0, 1) := by decide +kernel
theorem dX4_init_5 : decode cX4_init 5 = .ok (.sipush 192, 3) := by decide +kernel
theorem dX4_init_8 : decode cX4_init 8 = .ok (.newarray .int, 2) := by decide +kernel
theorem dX4_init_10 : decode cX4_init 10 = .ok (.putfield 11, 3) := by decide +kernel
theorem dX4_init_13 : decode cX4_init 13 = .ok (.aload_n 0, 1) := by decide +kernel
theorem dX4_init_14 : decode cX4_init 14 = .ok (.bipush 64, 2) := by decide +kernel
theorem dX4_init_16 : decode cX4_init 16 = .ok (.newarray .int, 2) := by decide +kernel
theorem dX4_init_18 : decode cX4_init 18 = .ok (.putfield 15, 3) := by decide +kernel
theorem dX4_init_21 : decode cX4_init 21 = .ok (.aload_n 0, 1) := by decide +kernel
theorem dX4_init_22 : decode cX4_init 22 = .ok (.sipush 128, 3) := by decide +kernel
theorem dX4_init_25 : decode cX4_init 25 = .ok (.newarray .int, 2) := by decide +kernel
theorem dX4_init_27 : decode cX4_init 27 = .ok (.putfield 18, 3) := by decide +kernel
theorem dX4_init_30 : decode cX4_init 30 = .ok (.aload_n 0, 1) := by decide +kernel
theorem dX4_init_31 : decode cX4_init 31 = .ok (.sipush 3328, 3) := by decide +kernel
theorem dX4_init_34 : decode cX4_init 34 = .ok (.newarray .int, 2) := by decide +kernel
theorem dX4_init_36 : decode cX4_init 36 = .ok (.putfield 21, 3) := by decide +kernel
theorem dX4_init_39 : decode cX4_init 39 = .ok (.aload_n 0, 1) := by decide +kernel
theorem dX4_init_40 : decode cX4_init 40 = .ok (.sipush 512, 3) := by decide +kernel
theorem dX4_init_43 : decode cX4_init 43 = .ok (.newarray .int, 2) := by decide +kernel
theorem dX4_init_45 : decode cX4_init 45 = .ok (.putfield 24, 3) := by decide +kernel
theorem dX4_init_48 : decode cX4_init 48 = .ok (.return_, 1) := by decide +kernel
theorem dX4_spotOf_0 : decode cX4_spotOf 0 = .ok (.iload_n 0, 1) := by decide +kernel
theorem dX4_spotOf_1 : decode cX4_spotOf 1 = .ok (.bipush 8, 2) := by decide +kernel
theorem dX4_spotOf_3 : decode cX4_spotOf 3 = .ok (.imul, 1) := by decide +kernel
theorem dX4_spotOf_4 : decode cX4_spotOf 4 = .ok (.iload_n 1, 1) := by decide +kernel
theorem dX4_spotOf_5 : decode cX4_spotOf 5 = .ok (.iadd, 1) := by decide +kernel
theorem dX4_spotOf_6 : decode cX4_spotOf 6 = .ok (.ireturn, 1) := by decide +kernel
theorem dX4_frontOf_0 : decode cX4_frontOf 0 = .ok (.iload_n 0, 1) := by decide +kernel
theorem dX4_frontOf_1 : decode cX4_frontOf 1 = .ok (.bipush 8, 2) := by decide +kernel
theorem dX4_frontOf_3 : decode cX4_frontOf 3 = .ok (.idiv, 1) := by decide +kernel
theorem dX4_frontOf_4 : decode cX4_frontOf 4 = .ok (.ireturn, 1) := by decide +kernel
theorem dX4_lay_0 : decode cX4_lay 0 = .ok (.aload_n 0, 1) := by decide +kernel
theorem dX4_lay_1 : decode cX4_lay 1 = .ok (.aload_n 1, 1) := by decide +kernel
theorem dX4_lay_2 : decode cX4_lay 2 = .ok (.getfield 27, 3) := by decide +kernel
theorem dX4_lay_5 : decode cX4_lay 5 = .ok (.aload_n 1, 1) := by decide +kernel
theorem dX4_lay_6 : decode cX4_lay 6 = .ok (.getfield 33, 3) := by decide +kernel
theorem dX4_lay_9 : decode cX4_lay 9 = .ok (.invokestatic 36, 3) := by decide +kernel
theorem dX4_lay_12 : decode cX4_lay 12 = .ok (.putfield 40, 3) := by decide +kernel
theorem dX4_lay_15 : decode cX4_lay 15 = .ok (.iconst 0, 1) := by decide +kernel
theorem dX4_lay_16 : decode cX4_lay 16 = .ok (.istore_n 2, 1) := by decide +kernel
theorem dX4_lay_17 : decode cX4_lay 17 = .ok (.iload_n 2, 1) := by decide +kernel
theorem dX4_lay_18 : decode cX4_lay 18 = .ok (.bipush 64, 2) := by decide +kernel
theorem dX4_lay_20 : decode cX4_lay 20 = .ok (.if_icmp .ge 38, 3) := by decide +kernel
theorem dX4_lay_23 : decode cX4_lay 23 = .ok (.iconst 0, 1) := by decide +kernel
theorem dX4_lay_24 : decode cX4_lay 24 = .ok (.istore_n 3, 1) := by decide +kernel
theorem dX4_lay_25 : decode cX4_lay 25 = .ok (.iload_n 3, 1) := by decide +kernel
theorem dX4_lay_26 : decode cX4_lay 26 = .ok (.iconst 3, 1) := by decide +kernel
theorem dX4_lay_27 : decode cX4_lay 27 = .ok (.if_icmp .ge 25, 3) := by decide +kernel
theorem dX4_lay_30 : decode cX4_lay 30 = .ok (.aload_n 0, 1) := by decide +kernel
theorem dX4_lay_31 : decode cX4_lay 31 = .ok (.getfield 11, 3) := by decide +kernel
theorem dX4_lay_34 : decode cX4_lay 34 = .ok (.iload_n 2, 1) := by decide +kernel
theorem dX4_lay_35 : decode cX4_lay 35 = .ok (.iconst 3, 1) := by decide +kernel
theorem dX4_lay_36 : decode cX4_lay 36 = .ok (.imul, 1) := by decide +kernel
theorem dX4_lay_37 : decode cX4_lay 37 = .ok (.iload_n 3, 1) := by decide +kernel
theorem dX4_lay_38 : decode cX4_lay 38 = .ok (.iadd, 1) := by decide +kernel
theorem dX4_lay_39 : decode cX4_lay 39 = .ok (.aload_n 1, 1) := by decide +kernel
theorem dX4_lay_40 : decode cX4_lay 40 = .ok (.iload_n 2, 1) := by decide +kernel
theorem dX4_lay_41 : decode cX4_lay 41 = .ok (.iload_n 3, 1) := by decide +kernel
theorem dX4_lay_42 : decode cX4_lay 42 = .ok (.invokestatic 43, 3) := by decide +kernel
theorem dX4_lay_45 : decode cX4_lay 45 = .ok (.iastore, 1) := by decide +kernel
theorem dX4_lay_46 : decode cX4_lay 46 = .ok (.iinc 3 1, 3) := by decide +kernel
theorem dX4_lay_49 : decode cX4_lay 49 = .ok (.goto (-24), 3) := by decide +kernel
theorem dX4_lay_52 : decode cX4_lay 52 = .ok (.iinc 2 1, 3) := by decide +kernel
theorem dX4_lay_55 : decode cX4_lay 55 = .ok (.goto (-38), 3) := by decide +kernel
theorem dX4_lay_58 : decode cX4_lay 58 = .ok (.return_, 1) := by decide +kernel
theorem dX4_spotBehind_0 : decode cX4_spotBehind 0 = .ok (.iload_n 1, 1) := by decide +kernel
theorem dX4_spotBehind_1 : decode cX4_spotBehind 1 = .ok (.invokestatic 47, 3) := by decide +kernel
theorem dX4_spotBehind_4 : decode cX4_spotBehind 4 = .ok (.istore_n 3, 1) := by decide +kernel
theorem dX4_spotBehind_5 : decode cX4_spotBehind 5 = .ok (.iload_n 1, 1) := by decide +kernel
theorem dX4_spotBehind_6 : decode cX4_spotBehind 6 = .ok (.bipush 8, 2) := by decide +kernel
theorem dX4_spotBehind_8 : decode cX4_spotBehind 8 = .ok (.irem, 1) := by decide +kernel
theorem dX4_spotBehind_9 : decode cX4_spotBehind 9 = .ok (.istore 4, 2) := by decide +kernel
theorem dX4_spotBehind_11 : decode cX4_spotBehind 11 = .ok (.aload_n 0, 1) := by decide +kernel
theorem dX4_spotBehind_12 : decode cX4_spotBehind 12 = .ok (.iload_n 3, 1) := by decide +kernel
theorem dX4_spotBehind_13 : decode cX4_spotBehind 13 = .ok (.iload 4, 2) := by decide +kernel
theorem dX4_spotBehind_15 : decode cX4_spotBehind 15 = .ok (.invokevirtual 51, 3) := by decide +kernel
theorem dX4_spotBehind_18 : decode cX4_spotBehind 18 = .ok (.ifCond .ne 6, 3) := by decide +kernel
theorem dX4_spotBehind_21 : decode cX4_spotBehind 21 = .ok (.bipush (-4), 2) := by decide +kernel
theorem dX4_spotBehind_23 : decode cX4_spotBehind 23 = .ok (.ireturn, 1) := by decide +kernel
theorem dX4_spotBehind_24 : decode cX4_spotBehind 24 = .ok (.iload_n 2, 1) := by decide +kernel
theorem dX4_spotBehind_25 : decode cX4_spotBehind 25 = .ok (.iconst 2, 1) := by decide +kernel
theorem dX4_spotBehind_26 : decode cX4_spotBehind 26 = .ok (.if_icmp .ne 10, 3) := by decide +kernel
theorem dX4_spotBehind_29 : decode cX4_spotBehind 29 = .ok (.iload 4, 2) := by decide +kernel
theorem dX4_spotBehind_31 : decode cX4_spotBehind 31 = .ok (.iload_n 3, 1) := by decide +kernel
theorem dX4_spotBehind_32 : decode cX4_spotBehind 32 = .ok (.invokestatic 36, 3) := by decide +kernel
theorem dX4_spotBehind_35 : decode cX4_spotBehind 35 = .ok (.ireturn, 1) := by decide +kernel
theorem dX4_spotBehind_36 : decode cX4_spotBehind 36 = .ok (.aload_n 0, 1) := by decide +kernel
theorem dX4_spotBehind_37 : decode cX4_spotBehind 37 = .ok (.iload_n 3, 1) := by decide +kernel
theorem dX4_spotBehind_38 : decode cX4_spotBehind 38 = .ok (.iload 4, 2) := by decide +kernel
theorem dX4_spotBehind_40 : decode cX4_spotBehind 40 = .ok (.iload_n 2, 1) := by decide +kernel
theorem dX4_spotBehind_41 : decode cX4_spotBehind 41 = .ok (.invokevirtual 55, 3) := by decide +kernel
theorem dX4_spotBehind_44 : decode cX4_spotBehind 44 = .ok (.istore 5, 2) := by decide +kernel
theorem dX4_spotBehind_46 : decode cX4_spotBehind 46 = .ok (.iload 5, 2) := by decide +kernel
theorem dX4_spotBehind_48 : decode cX4_spotBehind 48 = .ok (.ifCond .lt 12, 3) := by decide +kernel
theorem dX4_spotBehind_51 : decode cX4_spotBehind 51 = .ok (.aload_n 0, 1) := by decide +kernel
theorem dX4_spotBehind_52 : decode cX4_spotBehind 52 = .ok (.iload 5, 2) := by decide +kernel
theorem dX4_spotBehind_54 : decode cX4_spotBehind 54 = .ok (.invokevirtual 59, 3) := by decide +kernel
theorem dX4_spotBehind_57 : decode cX4_spotBehind 57 = .ok (.ifCond .eq 8, 3) := by decide +kernel
theorem dX4_spotBehind_60 : decode cX4_spotBehind 60 = .ok (.bipush (-4), 2) := by decide +kernel
theorem dX4_spotBehind_62 : decode cX4_spotBehind 62 = .ok (.goto 9, 3) := by decide +kernel
theorem dX4_spotBehind_65 : decode cX4_spotBehind 65 = .ok (.iload 5, 2) := by decide +kernel
theorem dX4_spotBehind_67 : decode cX4_spotBehind 67 = .ok (.iload_n 3, 1) := by decide +kernel
theorem dX4_spotBehind_68 : decode cX4_spotBehind 68 = .ok (.invokestatic 36, 3) := by decide +kernel
theorem dX4_spotBehind_71 : decode cX4_spotBehind 71 = .ok (.ireturn, 1) := by decide +kernel
theorem dX4_behind_0 : decode cX4_behind 0 = .ok (.iload_n 1, 1) := by decide +kernel
theorem dX4_behind_1 : decode cX4_behind 1 = .ok (.ifCond .lt 22, 3) := by decide +kernel
theorem dX4_behind_4 : decode cX4_behind 4 = .ok (.iload_n 1, 1) := by decide +kernel
theorem dX4_behind_5 : decode cX4_behind 5 = .ok (.bipush 64, 2) := by decide +kernel
theorem dX4_behind_7 : decode cX4_behind 7 = .ok (.if_icmp .ge 16, 3) := by decide +kernel
theorem dX4_behind_10 : decode cX4_behind 10 = .ok (.iload_n 2, 1) := by decide +kernel
theorem dX4_behind_11 : decode cX4_behind 11 = .ok (.ifCond .lt 12, 3) := by decide +kernel
theorem dX4_behind_14 : decode cX4_behind 14 = .ok (.iload_n 2, 1) := by decide +kernel
theorem dX4_behind_15 : decode cX4_behind 15 = .ok (.iconst 3, 1) := by decide +kernel
theorem dX4_behind_16 : decode cX4_behind 16 = .ok (.if_icmp .ge 7, 3) := by decide +kernel
theorem dX4_behind_19 : decode cX4_behind 19 = .ok (.iconst 1, 1) := by decide +kernel
theorem dX4_behind_20 : decode cX4_behind 20 = .ok (.goto 4, 3) := by decide +kernel
theorem dX4_behind_23 : decode cX4_behind 23 = .ok (.iconst 0, 1) := by decide +kernel
theorem dX4_behind_24 : decode cX4_behind 24 = .ok (.istore_n 3, 1) := by decide +kernel
theorem dX4_behind_25 : decode cX4_behind 25 = .ok (.iload_n 3, 1) := by decide +kernel
theorem dX4_behind_26 : decode cX4_behind 26 = .ok (.ifCond .eq 16, 3) := by decide +kernel
theorem dX4_behind_29 : decode cX4_behind 29 = .ok (.aload_n 0, 1) := by decide +kernel
theorem dX4_behind_30 : decode cX4_behind 30 = .ok (.getfield 11, 3) := by decide +kernel
theorem dX4_behind_33 : decode cX4_behind 33 = .ok (.iload_n 1, 1) := by decide +kernel
theorem dX4_behind_34 : decode cX4_behind 34 = .ok (.iconst 3, 1) := by decide +kernel
theorem dX4_behind_35 : decode cX4_behind 35 = .ok (.imul, 1) := by decide +kernel
theorem dX4_behind_36 : decode cX4_behind 36 = .ok (.iload_n 2, 1) := by decide +kernel
theorem dX4_behind_37 : decode cX4_behind 37 = .ok (.iadd, 1) := by decide +kernel
theorem dX4_behind_38 : decode cX4_behind 38 = .ok (.iaload, 1) := by decide +kernel
theorem dX4_behind_39 : decode cX4_behind 39 = .ok (.goto 5, 3) := by decide +kernel
theorem dX4_behind_42 : decode cX4_behind 42 = .ok (.bipush (-4), 2) := by decide +kernel
theorem dX4_behind_44 : decode cX4_behind 44 = .ok (.ireturn, 1) := by decide +kernel
theorem dX4_reached_0 : decode cX4_reached 0 = .ok (.lconst 1, 1) := by decide +kernel
theorem dX4_reached_1 : decode cX4_reached 1 = .ok (.aload_n 0, 1) := by decide +kernel
theorem dX4_reached_2 : decode cX4_reached 2 = .ok (.getfield 40, 3) := by decide +kernel
theorem dX4_reached_5 : decode cX4_reached 5 = .ok (.lshl, 1) := by decide +kernel
theorem dX4_reached_6 : decode cX4_reached 6 = .ok (.lstore_n 1, 1) := by decide +kernel
theorem dX4_reached_7 : decode cX4_reached 7 = .ok (.iconst 0, 1) := by decide +kernel
theorem dX4_reached_8 : decode cX4_reached 8 = .ok (.istore_n 3, 1) := by decide +kernel
theorem dX4_reached_9 : decode cX4_reached 9 = .ok (.iload_n 3, 1) := by decide +kernel
theorem dX4_reached_10 : decode cX4_reached 10 = .ok (.bipush 64, 2) := by decide +kernel
theorem dX4_reached_12 : decode cX4_reached 12 = .ok (.if_icmp .ge 58, 3) := by decide +kernel
theorem dX4_reached_15 : decode cX4_reached 15 = .ok (.lload_n 1, 1) := by decide +kernel
theorem dX4_reached_16 : decode cX4_reached 16 = .ok (.lstore 4, 2) := by decide +kernel
theorem dX4_reached_18 : decode cX4_reached 18 = .ok (.iconst 0, 1) := by decide +kernel
theorem dX4_reached_19 : decode cX4_reached 19 = .ok (.istore 6, 2) := by decide +kernel
theorem dX4_reached_21 : decode cX4_reached 21 = .ok (.iload 6, 2) := by decide +kernel
theorem dX4_reached_23 : decode cX4_reached 23 = .ok (.bipush 64, 2) := by decide +kernel
theorem dX4_reached_25 : decode cX4_reached 25 = .ok (.if_icmp .ge 29, 3) := by decide +kernel
theorem dX4_reached_28 : decode cX4_reached 28 = .ok (.lload_n 1, 1) := by decide +kernel
theorem dX4_reached_29 : decode cX4_reached 29 = .ok (.iload 6, 2) := by decide +kernel
theorem dX4_reached_31 : decode cX4_reached 31 = .ok (.lshr, 1) := by decide +kernel
theorem dX4_reached_32 : decode cX4_reached 32 = .ok (.lconst 1, 1) := by decide +kernel
theorem dX4_reached_33 : decode cX4_reached 33 = .ok (.land, 1) := by decide +kernel
theorem dX4_reached_34 : decode cX4_reached 34 = .ok (.lconst 1, 1) := by decide +kernel
theorem dX4_reached_35 : decode cX4_reached 35 = .ok (.lcmp, 1) := by decide +kernel
theorem dX4_reached_36 : decode cX4_reached 36 = .ok (.ifCond .ne 12, 3) := by decide +kernel
theorem dX4_reached_39 : decode cX4_reached 39 = .ok (.lload_n 1, 1) := by decide +kernel
theorem dX4_reached_40 : decode cX4_reached 40 = .ok (.aload_n 0, 1) := by decide +kernel
theorem dX4_reached_41 : decode cX4_reached 41 = .ok (.iload 6, 2) := by decide +kernel
theorem dX4_reached_43 : decode cX4_reached 43 = .ok (.invokevirtual 63, 3) := by decide +kernel
theorem dX4_reached_46 : decode cX4_reached 46 = .ok (.lor, 1) := by decide +kernel
theorem dX4_reached_47 : decode cX4_reached 47 = .ok (.lstore_n 1, 1) := by decide +kernel
theorem dX4_reached_48 : decode cX4_reached 48 = .ok (.iinc 6 1, 3) := by decide +kernel
theorem dX4_reached_51 : decode cX4_reached 51 = .ok (.goto (-30), 3) := by decide +kernel
theorem dX4_reached_54 : decode cX4_reached 54 = .ok (.lload_n 1, 1) := by decide +kernel
theorem dX4_reached_55 : decode cX4_reached 55 = .ok (.lload 4, 2) := by decide +kernel
theorem dX4_reached_57 : decode cX4_reached 57 = .ok (.lcmp, 1) := by decide +kernel
theorem dX4_reached_58 : decode cX4_reached 58 = .ok (.ifCond .ne 6, 3) := by decide +kernel
theorem dX4_reached_61 : decode cX4_reached 61 = .ok (.goto 9, 3) := by decide +kernel
theorem dX4_reached_64 : decode cX4_reached 64 = .ok (.iinc 3 1, 3) := by decide +kernel
theorem dX4_reached_67 : decode cX4_reached 67 = .ok (.goto (-58), 3) := by decide +kernel
theorem dX4_reached_70 : decode cX4_reached 70 = .ok (.iconst 0, 1) := by decide +kernel
theorem dX4_reached_71 : decode cX4_reached 71 = .ok (.istore_n 3, 1) := by decide +kernel
theorem dX4_reached_72 : decode cX4_reached 72 = .ok (.iconst 0, 1) := by decide +kernel
theorem dX4_reached_73 : decode cX4_reached 73 = .ok (.istore 4, 2) := by decide +kernel
theorem dX4_reached_75 : decode cX4_reached 75 = .ok (.iload 4, 2) := by decide +kernel
theorem dX4_reached_77 : decode cX4_reached 77 = .ok (.bipush 64, 2) := by decide +kernel
theorem dX4_reached_79 : decode cX4_reached 79 = .ok (.if_icmp .ge 30, 3) := by decide +kernel
theorem dX4_reached_82 : decode cX4_reached 82 = .ok (.lload_n 1, 1) := by decide +kernel
theorem dX4_reached_83 : decode cX4_reached 83 = .ok (.iload 4, 2) := by decide +kernel
theorem dX4_reached_85 : decode cX4_reached 85 = .ok (.lshr, 1) := by decide +kernel
theorem dX4_reached_86 : decode cX4_reached 86 = .ok (.lconst 1, 1) := by decide +kernel
theorem dX4_reached_87 : decode cX4_reached 87 = .ok (.land, 1) := by decide +kernel
theorem dX4_reached_88 : decode cX4_reached 88 = .ok (.lconst 1, 1) := by decide +kernel
theorem dX4_reached_89 : decode cX4_reached 89 = .ok (.lcmp, 1) := by decide +kernel
theorem dX4_reached_90 : decode cX4_reached 90 = .ok (.ifCond .ne 13, 3) := by decide +kernel
theorem dX4_reached_93 : decode cX4_reached 93 = .ok (.iload_n 3, 1) := by decide +kernel
theorem dX4_reached_94 : decode cX4_reached 94 = .ok (.iconst 1, 1) := by decide +kernel
theorem dX4_reached_95 : decode cX4_reached 95 = .ok (.iload 4, 2) := by decide +kernel
theorem dX4_reached_97 : decode cX4_reached 97 = .ok (.invokestatic 47, 3) := by decide +kernel
theorem dX4_reached_100 : decode cX4_reached 100 = .ok (.ishl, 1) := by decide +kernel
theorem dX4_reached_101 : decode cX4_reached 101 = .ok (.ior, 1) := by decide +kernel
theorem dX4_reached_102 : decode cX4_reached 102 = .ok (.istore_n 3, 1) := by decide +kernel
theorem dX4_reached_103 : decode cX4_reached 103 = .ok (.iinc 4 1, 3) := by decide +kernel
theorem dX4_reached_106 : decode cX4_reached 106 = .ok (.goto (-31), 3) := by decide +kernel
theorem dX4_reached_109 : decode cX4_reached 109 = .ok (.iload_n 3, 1) := by decide +kernel
theorem dX4_reached_110 : decode cX4_reached 110 = .ok (.ireturn, 1) := by decide +kernel
theorem dX4_spotsOneMoveOn_0 : decode cX4_spotsOneMoveOn 0 = .ok (.lconst 0, 1) := by decide +kernel
theorem dX4_spotsOneMoveOn_1 : decode cX4_spotsOneMoveOn 1 = .ok (.lstore_n 2, 1) := by decide +kernel
theorem dX4_spotsOneMoveOn_2 : decode cX4_spotsOneMoveOn 2 = .ok (.iconst 0, 1) := by decide +kernel
theorem dX4_spotsOneMoveOn_3 : decode cX4_spotsOneMoveOn 3 = .ok (.istore 4, 2) := by decide +kernel
theorem dX4_spotsOneMoveOn_5 : decode cX4_spotsOneMoveOn 5 = .ok (.iload 4, 2) := by decide +kernel
theorem dX4_spotsOneMoveOn_7 : decode cX4_spotsOneMoveOn 7 = .ok (.iconst 3, 1) := by decide +kernel
theorem dX4_spotsOneMoveOn_8 : decode cX4_spotsOneMoveOn 8 = .ok (.if_icmp .ge 30, 3) := by decide +kernel
theorem dX4_spotsOneMoveOn_11 : decode cX4_spotsOneMoveOn 11 = .ok (.aload_n 0, 1) := by decide +kernel
theorem dX4_spotsOneMoveOn_12 : decode cX4_spotsOneMoveOn 12 = .ok (.iload_n 1, 1) := by decide +kernel
theorem dX4_spotsOneMoveOn_13 : decode cX4_spotsOneMoveOn 13 = .ok (.iload 4, 2) := by decide +kernel
theorem dX4_spotsOneMoveOn_15 : decode cX4_spotsOneMoveOn 15 = .ok (.invokevirtual 67, 3) := by decide +kernel
theorem dX4_spotsOneMoveOn_18 : decode cX4_spotsOneMoveOn 18 = .ok (.istore 5, 2) := by decide +kernel
theorem dX4_spotsOneMoveOn_20 : decode cX4_spotsOneMoveOn 20 = .ok (.iload 5, 2) := by decide +kernel
theorem dX4_spotsOneMoveOn_22 : decode cX4_spotsOneMoveOn 22 = .ok (.ifCond .lt 10, 3) := by decide +kernel
theorem dX4_spotsOneMoveOn_25 : decode cX4_spotsOneMoveOn 25 = .ok (.lload_n 2, 1) := by decide +kernel
theorem dX4_spotsOneMoveOn_26 : decode cX4_spotsOneMoveOn 26 = .ok (.lconst 1, 1) := by decide +kernel
theorem dX4_spotsOneMoveOn_27 : decode cX4_spotsOneMoveOn 27 = .ok (.iload 5, 2) := by decide +kernel
theorem dX4_spotsOneMoveOn_29 : decode cX4_spotsOneMoveOn 29 = .ok (.lshl, 1) := by decide +kernel
theorem dX4_spotsOneMoveOn_30 : decode cX4_spotsOneMoveOn 30 = .ok (.lor, 1) := by decide +kernel
theorem dX4_spotsOneMoveOn_31 : decode cX4_spotsOneMoveOn 31 = .ok (.lstore_n 2, 1) := by decide +kernel
theorem dX4_spotsOneMoveOn_32 : decode cX4_spotsOneMoveOn 32 = .ok (.iinc 4 1, 3) := by decide +kernel
theorem dX4_spotsOneMoveOn_35 : decode cX4_spotsOneMoveOn 35 = .ok (.goto (-30), 3) := by decide +kernel
theorem dX4_spotsOneMoveOn_38 : decode cX4_spotsOneMoveOn 38 = .ok (.lload_n 2, 1) := by decide +kernel
theorem dX4_spotsOneMoveOn_39 : decode cX4_spotsOneMoveOn 39 = .ok (.lreturn, 1) := by decide +kernel
theorem dX4_measure_0 : decode cX4_measure 0 = .ok (.iconst 0, 1) := by decide +kernel
theorem dX4_measure_1 : decode cX4_measure 1 = .ok (.istore_n 3, 1) := by decide +kernel
theorem dX4_measure_2 : decode cX4_measure 2 = .ok (.iload_n 3, 1) := by decide +kernel
theorem dX4_measure_3 : decode cX4_measure 3 = .ok (.bipush 64, 2) := by decide +kernel
theorem dX4_measure_5 : decode cX4_measure 5 = .ok (.if_icmp .ge 29, 3) := by decide +kernel
theorem dX4_measure_8 : decode cX4_measure 8 = .ok (.aload_n 0, 1) := by decide +kernel
theorem dX4_measure_9 : decode cX4_measure 9 = .ok (.getfield 15, 3) := by decide +kernel
theorem dX4_measure_12 : decode cX4_measure 12 = .ok (.iload_n 3, 1) := by decide +kernel
theorem dX4_measure_13 : decode cX4_measure 13 = .ok (.iload_n 3, 1) := by decide +kernel
theorem dX4_measure_14 : decode cX4_measure 14 = .ok (.invokestatic 47, 3) := by decide +kernel
theorem dX4_measure_17 : decode cX4_measure 17 = .ok (.iload_n 2, 1) := by decide +kernel
theorem dX4_measure_18 : decode cX4_measure 18 = .ok (.if_icmp .ne 7, 3) := by decide +kernel
theorem dX4_measure_21 : decode cX4_measure 21 = .ok (.iconst 0, 1) := by decide +kernel
theorem dX4_measure_22 : decode cX4_measure 22 = .ok (.goto 5, 3) := by decide +kernel
theorem dX4_measure_25 : decode cX4_measure 25 = .ok (.ldc 70, 2) := by decide +kernel
theorem dX4_measure_27 : decode cX4_measure 27 = .ok (.iastore, 1) := by decide +kernel
theorem dX4_measure_28 : decode cX4_measure 28 = .ok (.iinc 3 1, 3) := by decide +kernel
theorem dX4_measure_31 : decode cX4_measure 31 = .ok (.goto (-29), 3) := by decide +kernel
theorem dX4_measure_34 : decode cX4_measure 34 = .ok (.iconst 1, 1) := by decide +kernel
theorem dX4_measure_35 : decode cX4_measure 35 = .ok (.istore_n 3, 1) := by decide +kernel
theorem dX4_measure_36 : decode cX4_measure 36 = .ok (.iconst 0, 1) := by decide +kernel
theorem dX4_measure_37 : decode cX4_measure 37 = .ok (.istore 4, 2) := by decide +kernel
theorem dX4_measure_39 : decode cX4_measure 39 = .ok (.iload 4, 2) := by decide +kernel
theorem dX4_measure_41 : decode cX4_measure 41 = .ok (.bipush 64, 2) := by decide +kernel
theorem dX4_measure_43 : decode cX4_measure 43 = .ok (.if_icmp .ge 63, 3) := by decide +kernel
theorem dX4_measure_46 : decode cX4_measure 46 = .ok (.iload_n 3, 1) := by decide +kernel
theorem dX4_measure_47 : decode cX4_measure 47 = .ok (.ifCond .eq 59, 3) := by decide +kernel
theorem dX4_measure_50 : decode cX4_measure 50 = .ok (.iconst 0, 1) := by decide +kernel
theorem dX4_measure_51 : decode cX4_measure 51 = .ok (.istore_n 3, 1) := by decide +kernel
theorem dX4_measure_52 : decode cX4_measure 52 = .ok (.iconst 0, 1) := by decide +kernel
theorem dX4_measure_53 : decode cX4_measure 53 = .ok (.istore 5, 2) := by decide +kernel
theorem dX4_measure_55 : decode cX4_measure 55 = .ok (.iload 5, 2) := by decide +kernel
theorem dX4_measure_57 : decode cX4_measure 57 = .ok (.bipush 64, 2) := by decide +kernel
theorem dX4_measure_59 : decode cX4_measure 59 = .ok (.if_icmp .ge 41, 3) := by decide +kernel
theorem dX4_measure_62 : decode cX4_measure 62 = .ok (.aload_n 0, 1) := by decide +kernel
theorem dX4_measure_63 : decode cX4_measure 63 = .ok (.aload_n 1, 1) := by decide +kernel
theorem dX4_measure_64 : decode cX4_measure 64 = .ok (.iload 5, 2) := by decide +kernel
theorem dX4_measure_66 : decode cX4_measure 66 = .ok (.invokevirtual 71, 3) := by decide +kernel
theorem dX4_measure_69 : decode cX4_measure 69 = .ok (.istore 6, 2) := by decide +kernel
theorem dX4_measure_71 : decode cX4_measure 71 = .ok (.iload 6, 2) := by decide +kernel
theorem dX4_measure_73 : decode cX4_measure 73 = .ok (.aload_n 0, 1) := by decide +kernel
theorem dX4_measure_74 : decode cX4_measure 74 = .ok (.getfield 15, 3) := by decide +kernel
theorem dX4_measure_77 : decode cX4_measure 77 = .ok (.iload 5, 2) := by decide +kernel
theorem dX4_measure_79 : decode cX4_measure 79 = .ok (.iaload, 1) := by decide +kernel
theorem dX4_measure_80 : decode cX4_measure 80 = .ok (.if_icmp .ge 14, 3) := by decide +kernel
theorem dX4_measure_83 : decode cX4_measure 83 = .ok (.aload_n 0, 1) := by decide +kernel
theorem dX4_measure_84 : decode cX4_measure 84 = .ok (.getfield 15, 3) := by decide +kernel
theorem dX4_measure_87 : decode cX4_measure 87 = .ok (.iload 5, 2) := by decide +kernel
theorem dX4_measure_89 : decode cX4_measure 89 = .ok (.iload 6, 2) := by decide +kernel
theorem dX4_measure_91 : decode cX4_measure 91 = .ok (.iastore, 1) := by decide +kernel
theorem dX4_measure_92 : decode cX4_measure 92 = .ok (.iconst 1, 1) := by decide +kernel
theorem dX4_measure_93 : decode cX4_measure 93 = .ok (.istore_n 3, 1) := by decide +kernel
theorem dX4_measure_94 : decode cX4_measure 94 = .ok (.iinc 5 1, 3) := by decide +kernel
theorem dX4_measure_97 : decode cX4_measure 97 = .ok (.goto (-42), 3) := by decide +kernel
theorem dX4_measure_100 : decode cX4_measure 100 = .ok (.iinc 4 1, 3) := by decide +kernel
theorem dX4_measure_103 : decode cX4_measure 103 = .ok (.goto (-64), 3) := by decide +kernel
theorem dX4_measure_106 : decode cX4_measure 106 = .ok (.return_, 1) := by decide +kernel
theorem dX4_leastOver_0 : decode cX4_leastOver 0 = .ok (.ldc 70, 2) := by decide +kernel
theorem dX4_leastOver_2 : decode cX4_leastOver 2 = .ok (.istore_n 3, 1) := by decide +kernel
theorem dX4_leastOver_3 : decode cX4_leastOver 3 = .ok (.iconst 0, 1) := by decide +kernel
theorem dX4_leastOver_4 : decode cX4_leastOver 4 = .ok (.istore 4, 2) := by decide +kernel
theorem dX4_leastOver_6 : decode cX4_leastOver 6 = .ok (.iload 4, 2) := by decide +kernel
theorem dX4_leastOver_8 : decode cX4_leastOver 8 = .ok (.iconst 3, 1) := by decide +kernel
theorem dX4_leastOver_9 : decode cX4_leastOver 9 = .ok (.if_icmp .ge 22, 3) := by decide +kernel
theorem dX4_leastOver_12 : decode cX4_leastOver 12 = .ok (.iload_n 3, 1) := by decide +kernel
theorem dX4_leastOver_13 : decode cX4_leastOver 13 = .ok (.aload_n 0, 1) := by decide +kernel
theorem dX4_leastOver_14 : decode cX4_leastOver 14 = .ok (.aload_n 1, 1) := by decide +kernel
theorem dX4_leastOver_15 : decode cX4_leastOver 15 = .ok (.iload_n 2, 1) := by decide +kernel
theorem dX4_leastOver_16 : decode cX4_leastOver 16 = .ok (.iload 4, 2) := by decide +kernel
theorem dX4_leastOver_18 : decode cX4_leastOver 18 = .ok (.invokevirtual 75, 3) := by decide +kernel
theorem dX4_leastOver_21 : decode cX4_leastOver 21 = .ok (.invokestatic 78, 3) := by decide +kernel
theorem dX4_leastOver_24 : decode cX4_leastOver 24 = .ok (.istore_n 3, 1) := by decide +kernel
theorem dX4_leastOver_25 : decode cX4_leastOver 25 = .ok (.iinc 4 1, 3) := by decide +kernel
theorem dX4_leastOver_28 : decode cX4_leastOver 28 = .ok (.goto (-22), 3) := by decide +kernel
theorem dX4_leastOver_31 : decode cX4_leastOver 31 = .ok (.iload_n 3, 1) := by decide +kernel
theorem dX4_leastOver_32 : decode cX4_leastOver 32 = .ok (.ireturn, 1) := by decide +kernel
theorem dX4_lengthBy_0 : decode cX4_lengthBy 0 = .ok (.aload_n 0, 1) := by decide +kernel
theorem dX4_lengthBy_1 : decode cX4_lengthBy 1 = .ok (.iload_n 2, 1) := by decide +kernel
theorem dX4_lengthBy_2 : decode cX4_lengthBy 2 = .ok (.iload_n 3, 1) := by decide +kernel
theorem dX4_lengthBy_3 : decode cX4_lengthBy 3 = .ok (.invokevirtual 67, 3) := by decide +kernel
theorem dX4_lengthBy_6 : decode cX4_lengthBy 6 = .ok (.istore 4, 2) := by decide +kernel
theorem dX4_lengthBy_8 : decode cX4_lengthBy 8 = .ok (.iload 4, 2) := by decide +kernel
theorem dX4_lengthBy_10 : decode cX4_lengthBy 10 = .ok (.ifCond .lt 10, 3) := by decide +kernel
theorem dX4_lengthBy_13 : decode cX4_lengthBy 13 = .ok (.iload 4, 2) := by decide +kernel
theorem dX4_lengthBy_15 : decode cX4_lengthBy 15 = .ok (.bipush 64, 2) := by decide +kernel
theorem dX4_lengthBy_17 : decode cX4_lengthBy 17 = .ok (.if_icmp .lt 6, 3) := by decide +kernel
theorem dX4_lengthBy_20 : decode cX4_lengthBy 20 = .ok (.ldc 70, 2) := by decide +kernel
theorem dX4_lengthBy_22 : decode cX4_lengthBy 22 = .ok (.ireturn, 1) := by decide +kernel
theorem dX4_lengthBy_23 : decode cX4_lengthBy 23 = .ok (.iload_n 3, 1) := by decide +kernel
theorem dX4_lengthBy_24 : decode cX4_lengthBy 24 = .ok (.iconst 2, 1) := by decide +kernel
theorem dX4_lengthBy_25 : decode cX4_lengthBy 25 = .ok (.if_icmp .ne 7, 3) := by decide +kernel
theorem dX4_lengthBy_28 : decode cX4_lengthBy 28 = .ok (.iconst 1, 1) := by decide +kernel
theorem dX4_lengthBy_29 : decode cX4_lengthBy 29 = .ok (.goto 12, 3) := by decide +kernel
theorem dX4_lengthBy_32 : decode cX4_lengthBy 32 = .ok (.aload_n 1, 1) := by decide +kernel
theorem dX4_lengthBy_33 : decode cX4_lengthBy 33 = .ok (.iload 4, 2) := by decide +kernel
theorem dX4_lengthBy_35 : decode cX4_lengthBy 35 = .ok (.invokestatic 47, 3) := by decide +kernel
theorem dX4_lengthBy_38 : decode cX4_lengthBy 38 = .ok (.invokevirtual 83, 3) := by decide +kernel
theorem dX4_lengthBy_41 : decode cX4_lengthBy 41 = .ok (.istore 5, 2) := by decide +kernel
theorem dX4_lengthBy_43 : decode cX4_lengthBy 43 = .ok (.ldc 70, 2) := by decide +kernel
theorem dX4_lengthBy_45 : decode cX4_lengthBy 45 = .ok (.iload 5, 2) := by decide +kernel
theorem dX4_lengthBy_47 : decode cX4_lengthBy 47 = .ok (.bipush 100, 2) := by decide +kernel
theorem dX4_lengthBy_49 : decode cX4_lengthBy 49 = .ok (.imul, 1) := by decide +kernel
theorem dX4_lengthBy_50 : decode cX4_lengthBy 50 = .ok (.iconst 1, 1) := by decide +kernel
theorem dX4_lengthBy_51 : decode cX4_lengthBy 51 = .ok (.iadd, 1) := by decide +kernel
theorem dX4_lengthBy_52 : decode cX4_lengthBy 52 = .ok (.aload_n 0, 1) := by decide +kernel
theorem dX4_lengthBy_53 : decode cX4_lengthBy 53 = .ok (.getfield 15, 3) := by decide +kernel
theorem dX4_lengthBy_56 : decode cX4_lengthBy 56 = .ok (.iload 4, 2) := by decide +kernel
theorem dX4_lengthBy_58 : decode cX4_lengthBy 58 = .ok (.iaload, 1) := by decide +kernel
theorem dX4_lengthBy_59 : decode cX4_lengthBy 59 = .ok (.iadd, 1) := by decide +kernel
theorem dX4_lengthBy_60 : decode cX4_lengthBy 60 = .ok (.invokestatic 78, 3) := by decide +kernel
theorem dX4_lengthBy_63 : decode cX4_lengthBy 63 = .ok (.ireturn, 1) := by decide +kernel
theorem dX4_hasWay_0 : decode cX4_hasWay 0 = .ok (.aload_n 0, 1) := by decide +kernel
theorem dX4_hasWay_1 : decode cX4_hasWay 1 = .ok (.getfield 15, 3) := by decide +kernel
theorem dX4_hasWay_4 : decode cX4_hasWay 4 = .ok (.aload_n 0, 1) := by decide +kernel
theorem dX4_hasWay_5 : decode cX4_hasWay 5 = .ok (.getfield 40, 3) := by decide +kernel
theorem dX4_hasWay_8 : decode cX4_hasWay 8 = .ok (.iaload, 1) := by decide +kernel
theorem dX4_hasWay_9 : decode cX4_hasWay 9 = .ok (.ldc 70, 2) := by decide +kernel
theorem dX4_hasWay_11 : decode cX4_hasWay 11 = .ok (.if_icmp .ge 7, 3) := by decide +kernel
theorem dX4_hasWay_14 : decode cX4_hasWay 14 = .ok (.iconst 1, 1) := by decide +kernel
theorem dX4_hasWay_15 : decode cX4_hasWay 15 = .ok (.goto 4, 3) := by decide +kernel
theorem dX4_hasWay_18 : decode cX4_hasWay 18 = .ok (.iconst 0, 1) := by decide +kernel
theorem dX4_hasWay_19 : decode cX4_hasWay 19 = .ok (.ireturn, 1) := by decide +kernel
theorem dX4_wayEffort_0 : decode cX4_wayEffort 0 = .ok (.aload_n 0, 1) := by decide +kernel
theorem dX4_wayEffort_1 : decode cX4_wayEffort 1 = .ok (.getfield 15, 3) := by decide +kernel
theorem dX4_wayEffort_4 : decode cX4_wayEffort 4 = .ok (.aload_n 0, 1) := by decide +kernel
theorem dX4_wayEffort_5 : decode cX4_wayEffort 5 = .ok (.getfield 40, 3) := by decide +kernel
theorem dX4_wayEffort_8 : decode cX4_wayEffort 8 = .ok (.iaload, 1) := by decide +kernel
theorem dX4_wayEffort_9 : decode cX4_wayEffort 9 = .ok (.bipush 100, 2) := by decide +kernel
theorem dX4_wayEffort_11 : decode cX4_wayEffort 11 = .ok (.idiv, 1) := by decide +kernel
theorem dX4_wayEffort_12 : decode cX4_wayEffort 12 = .ok (.ireturn, 1) := by decide +kernel
theorem dX4_wayMoves_0 : decode cX4_wayMoves 0 = .ok (.aload_n 0, 1) := by decide +kernel
theorem dX4_wayMoves_1 : decode cX4_wayMoves 1 = .ok (.getfield 15, 3) := by decide +kernel
theorem dX4_wayMoves_4 : decode cX4_wayMoves 4 = .ok (.aload_n 0, 1) := by decide +kernel
theorem dX4_wayMoves_5 : decode cX4_wayMoves 5 = .ok (.getfield 40, 3) := by decide +kernel
theorem dX4_wayMoves_8 : decode cX4_wayMoves 8 = .ok (.iaload, 1) := by decide +kernel
theorem dX4_wayMoves_9 : decode cX4_wayMoves 9 = .ok (.bipush 100, 2) := by decide +kernel
theorem dX4_wayMoves_11 : decode cX4_wayMoves 11 = .ok (.irem, 1) := by decide +kernel
theorem dX4_wayMoves_12 : decode cX4_wayMoves 12 = .ok (.ireturn, 1) := by decide +kernel
theorem dX4_wayMove_0 : decode cX4_wayMove 0 = .ok (.iload_n 2, 1) := by decide +kernel
theorem dX4_wayMove_1 : decode cX4_wayMove 1 = .ok (.ifCond .lt 11, 3) := by decide +kernel
theorem dX4_wayMove_4 : decode cX4_wayMove 4 = .ok (.iload_n 2, 1) := by decide +kernel
theorem dX4_wayMove_5 : decode cX4_wayMove 5 = .ok (.aload_n 0, 1) := by decide +kernel
theorem dX4_wayMove_6 : decode cX4_wayMove 6 = .ok (.invokevirtual 86, 3) := by decide +kernel
theorem dX4_wayMove_9 : decode cX4_wayMove 9 = .ok (.if_icmp .lt 6, 3) := by decide +kernel
theorem dX4_wayMove_12 : decode cX4_wayMove 12 = .ok (.bipush (-4), 2) := by decide +kernel
theorem dX4_wayMove_14 : decode cX4_wayMove 14 = .ok (.ireturn, 1) := by decide +kernel
theorem dX4_wayMove_15 : decode cX4_wayMove 15 = .ok (.aload_n 0, 1) := by decide +kernel
theorem dX4_wayMove_16 : decode cX4_wayMove 16 = .ok (.getfield 40, 3) := by decide +kernel
theorem dX4_wayMove_19 : decode cX4_wayMove 19 = .ok (.istore_n 3, 1) := by decide +kernel
theorem dX4_wayMove_20 : decode cX4_wayMove 20 = .ok (.iconst 0, 1) := by decide +kernel
theorem dX4_wayMove_21 : decode cX4_wayMove 21 = .ok (.istore 4, 2) := by decide +kernel
theorem dX4_wayMove_23 : decode cX4_wayMove 23 = .ok (.iload 4, 2) := by decide +kernel
theorem dX4_wayMove_25 : decode cX4_wayMove 25 = .ok (.iload_n 2, 1) := by decide +kernel
theorem dX4_wayMove_26 : decode cX4_wayMove 26 = .ok (.if_icmp .ge 21, 3) := by decide +kernel
theorem dX4_wayMove_29 : decode cX4_wayMove 29 = .ok (.aload_n 0, 1) := by decide +kernel
theorem dX4_wayMove_30 : decode cX4_wayMove 30 = .ok (.iload_n 3, 1) := by decide +kernel
theorem dX4_wayMove_31 : decode cX4_wayMove 31 = .ok (.aload_n 0, 1) := by decide +kernel
theorem dX4_wayMove_32 : decode cX4_wayMove 32 = .ok (.aload_n 1, 1) := by decide +kernel
theorem dX4_wayMove_33 : decode cX4_wayMove 33 = .ok (.iload_n 3, 1) := by decide +kernel
theorem dX4_wayMove_34 : decode cX4_wayMove 34 = .ok (.invokevirtual 90, 3) := by decide +kernel
theorem dX4_wayMove_37 : decode cX4_wayMove 37 = .ok (.invokevirtual 67, 3) := by decide +kernel
theorem dX4_wayMove_40 : decode cX4_wayMove 40 = .ok (.istore_n 3, 1) := by decide +kernel
theorem dX4_wayMove_41 : decode cX4_wayMove 41 = .ok (.iinc 4 1, 3) := by decide +kernel
theorem dX4_wayMove_44 : decode cX4_wayMove 44 = .ok (.goto (-21), 3) := by decide +kernel
theorem dX4_wayMove_47 : decode cX4_wayMove 47 = .ok (.aload_n 0, 1) := by decide +kernel
theorem dX4_wayMove_48 : decode cX4_wayMove 48 = .ok (.aload_n 1, 1) := by decide +kernel
theorem dX4_wayMove_49 : decode cX4_wayMove 49 = .ok (.iload_n 3, 1) := by decide +kernel
theorem dX4_wayMove_50 : decode cX4_wayMove 50 = .ok (.invokevirtual 90, 3) := by decide +kernel
theorem dX4_wayMove_53 : decode cX4_wayMove 53 = .ok (.ireturn, 1) := by decide +kernel
theorem dX4_firstBest_0 : decode cX4_firstBest 0 = .ok (.iload_n 2, 1) := by decide +kernel
theorem dX4_firstBest_1 : decode cX4_firstBest 1 = .ok (.ifCond .lt 9, 3) := by decide +kernel
theorem dX4_firstBest_4 : decode cX4_firstBest 4 = .ok (.iload_n 2, 1) := by decide +kernel
theorem dX4_firstBest_5 : decode cX4_firstBest 5 = .ok (.bipush 64, 2) := by decide +kernel
theorem dX4_firstBest_7 : decode cX4_firstBest 7 = .ok (.if_icmp .lt 6, 3) := by decide +kernel
theorem dX4_firstBest_10 : decode cX4_firstBest 10 = .ok (.bipush (-4), 2) := by decide +kernel
theorem dX4_firstBest_12 : decode cX4_firstBest 12 = .ok (.ireturn, 1) := by decide +kernel
theorem dX4_firstBest_13 : decode cX4_firstBest 13 = .ok (.iconst 0, 1) := by decide +kernel
theorem dX4_firstBest_14 : decode cX4_firstBest 14 = .ok (.istore_n 3, 1) := by decide +kernel
theorem dX4_firstBest_15 : decode cX4_firstBest 15 = .ok (.iload_n 3, 1) := by decide +kernel
theorem dX4_firstBest_16 : decode cX4_firstBest 16 = .ok (.iconst 3, 1) := by decide +kernel
theorem dX4_firstBest_17 : decode cX4_firstBest 17 = .ok (.if_icmp .ge 27, 3) := by decide +kernel
theorem dX4_firstBest_20 : decode cX4_firstBest 20 = .ok (.aload_n 0, 1) := by decide +kernel
theorem dX4_firstBest_21 : decode cX4_firstBest 21 = .ok (.aload_n 1, 1) := by decide +kernel
theorem dX4_firstBest_22 : decode cX4_firstBest 22 = .ok (.iload_n 2, 1) := by decide +kernel
theorem dX4_firstBest_23 : decode cX4_firstBest 23 = .ok (.iload_n 3, 1) := by decide +kernel
theorem dX4_firstBest_24 : decode cX4_firstBest 24 = .ok (.invokevirtual 75, 3) := by decide +kernel
theorem dX4_firstBest_27 : decode cX4_firstBest 27 = .ok (.aload_n 0, 1) := by decide +kernel
theorem dX4_firstBest_28 : decode cX4_firstBest 28 = .ok (.getfield 15, 3) := by decide +kernel
theorem dX4_firstBest_31 : decode cX4_firstBest 31 = .ok (.iload_n 2, 1) := by decide +kernel
theorem dX4_firstBest_32 : decode cX4_firstBest 32 = .ok (.iaload, 1) := by decide +kernel
theorem dX4_firstBest_33 : decode cX4_firstBest 33 = .ok (.if_icmp .ne 5, 3) := by decide +kernel
theorem dX4_firstBest_36 : decode cX4_firstBest 36 = .ok (.iload_n 3, 1) := by decide +kernel
theorem dX4_firstBest_37 : decode cX4_firstBest 37 = .ok (.ireturn, 1) := by decide +kernel
theorem dX4_firstBest_38 : decode cX4_firstBest 38 = .ok (.iinc 3 1, 3) := by decide +kernel
theorem dX4_firstBest_41 : decode cX4_firstBest 41 = .ok (.goto (-26), 3) := by decide +kernel
theorem dX4_firstBest_44 : decode cX4_firstBest 44 = .ok (.bipush (-4), 2) := by decide +kernel
theorem dX4_firstBest_46 : decode cX4_firstBest 46 = .ok (.ireturn, 1) := by decide +kernel
theorem dX4_fewestToSee_0 : decode cX4_fewestToSee 0 = .ok (.iconst 0, 1) := by decide +kernel
theorem dX4_fewestToSee_1 : decode cX4_fewestToSee 1 = .ok (.istore_n 2, 1) := by decide +kernel
theorem dX4_fewestToSee_2 : decode cX4_fewestToSee 2 = .ok (.iload_n 2, 1) := by decide +kernel
theorem dX4_fewestToSee_3 : decode cX4_fewestToSee 3 = .ok (.aload_n 0, 1) := by decide +kernel
theorem dX4_fewestToSee_4 : decode cX4_fewestToSee 4 = .ok (.getfield 24, 3) := by decide +kernel
theorem dX4_fewestToSee_7 : decode cX4_fewestToSee 7 = .ok (.arraylength, 1) := by decide +kernel
theorem dX4_fewestToSee_8 : decode cX4_fewestToSee 8 = .ok (.if_icmp .ge 16, 3) := by decide +kernel
theorem dX4_fewestToSee_11 : decode cX4_fewestToSee 11 = .ok (.aload_n 0, 1) := by decide +kernel
theorem dX4_fewestToSee_12 : decode cX4_fewestToSee 12 = .ok (.getfield 24, 3) := by decide +kernel
theorem dX4_fewestToSee_15 : decode cX4_fewestToSee 15 = .ok (.iload_n 2, 1) := by decide +kernel
theorem dX4_fewestToSee_16 : decode cX4_fewestToSee 16 = .ok (.iconst 0, 1) := by decide +kernel
theorem dX4_fewestToSee_17 : decode cX4_fewestToSee 17 = .ok (.iastore, 1) := by decide +kernel
theorem dX4_fewestToSee_18 : decode cX4_fewestToSee 18 = .ok (.iinc 2 1, 3) := by decide +kernel
theorem dX4_fewestToSee_21 : decode cX4_fewestToSee 21 = .ok (.goto (-19), 3) := by decide +kernel
theorem dX4_fewestToSee_24 : decode cX4_fewestToSee 24 = .ok (.aload_n 0, 1) := by decide +kernel
theorem dX4_fewestToSee_25 : decode cX4_fewestToSee 25 = .ok (.aload_n 0, 1) := by decide +kernel
theorem dX4_fewestToSee_26 : decode cX4_fewestToSee 26 = .ok (.getfield 40, 3) := by decide +kernel
theorem dX4_fewestToSee_29 : decode cX4_fewestToSee 29 = .ok (.iconst 0, 1) := by decide +kernel
theorem dX4_fewestToSee_30 : decode cX4_fewestToSee 30 = .ok (.iconst 0, 1) := by decide +kernel
theorem dX4_fewestToSee_31 : decode cX4_fewestToSee 31 = .ok (.invokevirtual 93, 3) := by decide +kernel
theorem dX4_fewestToSee_34 : decode cX4_fewestToSee 34 = .ok (.istore_n 2, 1) := by decide +kernel
theorem dX4_fewestToSee_35 : decode cX4_fewestToSee 35 = .ok (.iload_n 2, 1) := by decide +kernel
theorem dX4_fewestToSee_36 : decode cX4_fewestToSee 36 = .ok (.istore_n 3, 1) := by decide +kernel
theorem dX4_fewestToSee_37 : decode cX4_fewestToSee 37 = .ok (.iconst 0, 1) := by decide +kernel
theorem dX4_fewestToSee_38 : decode cX4_fewestToSee 38 = .ok (.istore 4, 2) := by decide +kernel
theorem dX4_fewestToSee_40 : decode cX4_fewestToSee 40 = .ok (.iconst 0, 1) := by decide +kernel
theorem dX4_fewestToSee_41 : decode cX4_fewestToSee 41 = .ok (.istore 5, 2) := by decide +kernel
theorem dX4_fewestToSee_43 : decode cX4_fewestToSee 43 = .ok (.iload 5, 2) := by decide +kernel
theorem dX4_fewestToSee_45 : decode cX4_fewestToSee 45 = .ok (.sipush 3328, 3) := by decide +kernel
theorem dX4_fewestToSee_48 : decode cX4_fewestToSee 48 = .ok (.if_icmp .ge 88, 3) := by decide +kernel
theorem dX4_fewestToSee_51 : decode cX4_fewestToSee 51 = .ok (.iload 5, 2) := by decide +kernel
theorem dX4_fewestToSee_53 : decode cX4_fewestToSee 53 = .ok (.iload_n 2, 1) := by decide +kernel
theorem dX4_fewestToSee_54 : decode cX4_fewestToSee 54 = .ok (.if_icmp .ge 82, 3) := by decide +kernel
theorem dX4_fewestToSee_57 : decode cX4_fewestToSee 57 = .ok (.iload 5, 2) := by decide +kernel
theorem dX4_fewestToSee_59 : decode cX4_fewestToSee 59 = .ok (.iload_n 3, 1) := by decide +kernel
theorem dX4_fewestToSee_60 : decode cX4_fewestToSee 60 = .ok (.if_icmp .ne 8, 3) := by decide +kernel
theorem dX4_fewestToSee_63 : decode cX4_fewestToSee 63 = .ok (.iinc 4 1, 3) := by decide +kernel
theorem dX4_fewestToSee_66 : decode cX4_fewestToSee 66 = .ok (.iload_n 2, 1) := by decide +kernel
theorem dX4_fewestToSee_67 : decode cX4_fewestToSee 67 = .ok (.istore_n 3, 1) := by decide +kernel
theorem dX4_fewestToSee_68 : decode cX4_fewestToSee 68 = .ok (.aload_n 0, 1) := by decide +kernel
theorem dX4_fewestToSee_69 : decode cX4_fewestToSee 69 = .ok (.getfield 21, 3) := by decide +kernel
theorem dX4_fewestToSee_72 : decode cX4_fewestToSee 72 = .ok (.iload 5, 2) := by decide +kernel
theorem dX4_fewestToSee_74 : decode cX4_fewestToSee 74 = .ok (.iaload, 1) := by decide +kernel
theorem dX4_fewestToSee_75 : decode cX4_fewestToSee 75 = .ok (.sipush 256, 3) := by decide +kernel
theorem dX4_fewestToSee_78 : decode cX4_fewestToSee 78 = .ok (.irem, 1) := by decide +kernel
theorem dX4_fewestToSee_79 : decode cX4_fewestToSee 79 = .ok (.istore 6, 2) := by decide +kernel
theorem dX4_fewestToSee_81 : decode cX4_fewestToSee 81 = .ok (.iload 6, 2) := by decide +kernel
theorem dX4_fewestToSee_83 : decode cX4_fewestToSee 83 = .ok (.iload_n 1, 1) := by decide +kernel
theorem dX4_fewestToSee_84 : decode cX4_fewestToSee 84 = .ok (.if_icmp .ne 6, 3) := by decide +kernel
theorem dX4_fewestToSee_87 : decode cX4_fewestToSee 87 = .ok (.iload 4, 2) := by decide +kernel
theorem dX4_fewestToSee_89 : decode cX4_fewestToSee 89 = .ok (.ireturn, 1) := by decide +kernel
theorem dX4_fewestToSee_90 : decode cX4_fewestToSee 90 = .ok (.iconst 0, 1) := by decide +kernel
theorem dX4_fewestToSee_91 : decode cX4_fewestToSee 91 = .ok (.istore 7, 2) := by decide +kernel
theorem dX4_fewestToSee_93 : decode cX4_fewestToSee 93 = .ok (.iload 7, 2) := by decide +kernel
theorem dX4_fewestToSee_95 : decode cX4_fewestToSee 95 = .ok (.iconst 3, 1) := by decide +kernel
theorem dX4_fewestToSee_96 : decode cX4_fewestToSee 96 = .ok (.if_icmp .ge 34, 3) := by decide +kernel
theorem dX4_fewestToSee_99 : decode cX4_fewestToSee 99 = .ok (.aload_n 0, 1) := by decide +kernel
theorem dX4_fewestToSee_100 : decode cX4_fewestToSee 100 = .ok (.aload_n 0, 1) := by decide +kernel
theorem dX4_fewestToSee_101 : decode cX4_fewestToSee 101 = .ok (.aload_n 0, 1) := by decide +kernel
theorem dX4_fewestToSee_102 : decode cX4_fewestToSee 102 = .ok (.getfield 21, 3) := by decide +kernel
theorem dX4_fewestToSee_105 : decode cX4_fewestToSee 105 = .ok (.iload 5, 2) := by decide +kernel
theorem dX4_fewestToSee_107 : decode cX4_fewestToSee 107 = .ok (.iaload, 1) := by decide +kernel
theorem dX4_fewestToSee_108 : decode cX4_fewestToSee 108 = .ok (.sipush 256, 3) := by decide +kernel
theorem dX4_fewestToSee_111 : decode cX4_fewestToSee 111 = .ok (.idiv, 1) := by decide +kernel
theorem dX4_fewestToSee_112 : decode cX4_fewestToSee 112 = .ok (.iload 7, 2) := by decide +kernel
theorem dX4_fewestToSee_114 : decode cX4_fewestToSee 114 = .ok (.invokevirtual 67, 3) := by decide +kernel
theorem dX4_fewestToSee_117 : decode cX4_fewestToSee 117 = .ok (.iload 6, 2) := by decide +kernel
theorem dX4_fewestToSee_119 : decode cX4_fewestToSee 119 = .ok (.iload_n 2, 1) := by decide +kernel
theorem dX4_fewestToSee_120 : decode cX4_fewestToSee 120 = .ok (.invokevirtual 93, 3) := by decide +kernel
theorem dX4_fewestToSee_123 : decode cX4_fewestToSee 123 = .ok (.istore_n 2, 1) := by decide +kernel
theorem dX4_fewestToSee_124 : decode cX4_fewestToSee 124 = .ok (.iinc 7 1, 3) := by decide +kernel
theorem dX4_fewestToSee_127 : decode cX4_fewestToSee 127 = .ok (.goto (-34), 3) := by decide +kernel
theorem dX4_fewestToSee_130 : decode cX4_fewestToSee 130 = .ok (.iinc 5 1, 3) := by decide +kernel
theorem dX4_fewestToSee_133 : decode cX4_fewestToSee 133 = .ok (.goto (-90), 3) := by decide +kernel
theorem dX4_fewestToSee_136 : decode cX4_fewestToSee 136 = .ok (.bipush (-4), 2) := by decide +kernel
theorem dX4_fewestToSee_138 : decode cX4_fewestToSee 138 = .ok (.ireturn, 1) := by decide +kernel
theorem dX4_enqueue_0 : decode cX4_enqueue 0 = .ok (.iload_n 1, 1) := by decide +kernel
theorem dX4_enqueue_1 : decode cX4_enqueue 1 = .ok (.ifCond .lt 20, 3) := by decide +kernel
theorem dX4_enqueue_4 : decode cX4_enqueue 4 = .ok (.iload_n 1, 1) := by decide +kernel
theorem dX4_enqueue_5 : decode cX4_enqueue 5 = .ok (.bipush 64, 2) := by decide +kernel
theorem dX4_enqueue_7 : decode cX4_enqueue 7 = .ok (.if_icmp .ge 14, 3) := by decide +kernel
theorem dX4_enqueue_10 : decode cX4_enqueue 10 = .ok (.iload_n 3, 1) := by decide +kernel
theorem dX4_enqueue_11 : decode cX4_enqueue 11 = .ok (.ifCond .lt 10, 3) := by decide +kernel
theorem dX4_enqueue_14 : decode cX4_enqueue 14 = .ok (.iload_n 3, 1) := by decide +kernel
theorem dX4_enqueue_15 : decode cX4_enqueue 15 = .ok (.sipush 3328, 3) := by decide +kernel
theorem dX4_enqueue_18 : decode cX4_enqueue 18 = .ok (.if_icmp .lt 5, 3) := by decide +kernel
theorem dX4_enqueue_21 : decode cX4_enqueue 21 = .ok (.iload_n 3, 1) := by decide +kernel
theorem dX4_enqueue_22 : decode cX4_enqueue 22 = .ok (.ireturn, 1) := by decide +kernel
theorem dX4_enqueue_23 : decode cX4_enqueue 23 = .ok (.iload_n 1, 1) := by decide +kernel
theorem dX4_enqueue_24 : decode cX4_enqueue 24 = .ok (.sipush 256, 3) := by decide +kernel
theorem dX4_enqueue_27 : decode cX4_enqueue 27 = .ok (.imul, 1) := by decide +kernel
theorem dX4_enqueue_28 : decode cX4_enqueue 28 = .ok (.iload_n 2, 1) := by decide +kernel
theorem dX4_enqueue_29 : decode cX4_enqueue 29 = .ok (.iconst 1, 1) := by decide +kernel
theorem dX4_enqueue_30 : decode cX4_enqueue 30 = .ok (.iload_n 1, 1) := by decide +kernel
theorem dX4_enqueue_31 : decode cX4_enqueue 31 = .ok (.invokestatic 47, 3) := by decide +kernel
theorem dX4_enqueue_34 : decode cX4_enqueue 34 = .ok (.ishl, 1) := by decide +kernel
theorem dX4_enqueue_35 : decode cX4_enqueue 35 = .ok (.ior, 1) := by decide +kernel
theorem dX4_enqueue_36 : decode cX4_enqueue 36 = .ok (.iadd, 1) := by decide +kernel
theorem dX4_enqueue_37 : decode cX4_enqueue 37 = .ok (.istore 4, 2) := by decide +kernel
theorem dX4_enqueue_39 : decode cX4_enqueue 39 = .ok (.iconst 1, 1) := by decide +kernel
theorem dX4_enqueue_40 : decode cX4_enqueue 40 = .ok (.iload 4, 2) := by decide +kernel
theorem dX4_enqueue_42 : decode cX4_enqueue 42 = .ok (.bipush 32, 2) := by decide +kernel
theorem dX4_enqueue_44 : decode cX4_enqueue 44 = .ok (.irem, 1) := by decide +kernel
theorem dX4_enqueue_45 : decode cX4_enqueue 45 = .ok (.ishl, 1) := by decide +kernel
theorem dX4_enqueue_46 : decode cX4_enqueue 46 = .ok (.istore 5, 2) := by decide +kernel
theorem dX4_enqueue_48 : decode cX4_enqueue 48 = .ok (.aload_n 0, 1) := by decide +kernel
theorem dX4_enqueue_49 : decode cX4_enqueue 49 = .ok (.getfield 24, 3) := by decide +kernel
theorem dX4_enqueue_52 : decode cX4_enqueue 52 = .ok (.iload 4, 2) := by decide +kernel
theorem dX4_enqueue_54 : decode cX4_enqueue 54 = .ok (.bipush 32, 2) := by decide +kernel
theorem dX4_enqueue_56 : decode cX4_enqueue 56 = .ok (.idiv, 1) := by decide +kernel
theorem dX4_enqueue_57 : decode cX4_enqueue 57 = .ok (.iaload, 1) := by decide +kernel
theorem dX4_enqueue_58 : decode cX4_enqueue 58 = .ok (.iload 5, 2) := by decide +kernel
theorem dX4_enqueue_60 : decode cX4_enqueue 60 = .ok (.iand, 1) := by decide +kernel
theorem dX4_enqueue_61 : decode cX4_enqueue 61 = .ok (.ifCond .eq 5, 3) := by decide +kernel
theorem dX4_enqueue_64 : decode cX4_enqueue 64 = .ok (.iload_n 3, 1) := by decide +kernel
theorem dX4_enqueue_65 : decode cX4_enqueue 65 = .ok (.ireturn, 1) := by decide +kernel
theorem dX4_enqueue_66 : decode cX4_enqueue 66 = .ok (.aload_n 0, 1) := by decide +kernel
theorem dX4_enqueue_67 : decode cX4_enqueue 67 = .ok (.getfield 24, 3) := by decide +kernel
theorem dX4_enqueue_70 : decode cX4_enqueue 70 = .ok (.iload 4, 2) := by decide +kernel
theorem dX4_enqueue_72 : decode cX4_enqueue 72 = .ok (.bipush 32, 2) := by decide +kernel
theorem dX4_enqueue_74 : decode cX4_enqueue 74 = .ok (.idiv, 1) := by decide +kernel
theorem dX4_enqueue_75 : decode cX4_enqueue 75 = .ok (.dup2, 1) := by decide +kernel
theorem dX4_enqueue_76 : decode cX4_enqueue 76 = .ok (.iaload, 1) := by decide +kernel
theorem dX4_enqueue_77 : decode cX4_enqueue 77 = .ok (.iload 5, 2) := by decide +kernel
theorem dX4_enqueue_79 : decode cX4_enqueue 79 = .ok (.ior, 1) := by decide +kernel
theorem dX4_enqueue_80 : decode cX4_enqueue 80 = .ok (.iastore, 1) := by decide +kernel
theorem dX4_enqueue_81 : decode cX4_enqueue 81 = .ok (.aload_n 0, 1) := by decide +kernel
theorem dX4_enqueue_82 : decode cX4_enqueue 82 = .ok (.getfield 21, 3) := by decide +kernel
theorem dX4_enqueue_85 : decode cX4_enqueue 85 = .ok (.iload_n 3, 1) := by decide +kernel
theorem dX4_enqueue_86 : decode cX4_enqueue 86 = .ok (.iload 4, 2) := by decide +kernel
theorem dX4_enqueue_88 : decode cX4_enqueue 88 = .ok (.iastore, 1) := by decide +kernel
theorem dX4_enqueue_89 : decode cX4_enqueue 89 = .ok (.iload_n 3, 1) := by decide +kernel
theorem dX4_enqueue_90 : decode cX4_enqueue 90 = .ok (.iconst 1, 1) := by decide +kernel
theorem dX4_enqueue_91 : decode cX4_enqueue 91 = .ok (.iadd, 1) := by decide +kernel
theorem dX4_enqueue_92 : decode cX4_enqueue 92 = .ok (.ireturn, 1) := by decide +kernel
theorem dX4_moveOfCircle_0 : decode cX4_moveOfCircle 0 = .ok (.aload_n 0, 1) := by decide +kernel
theorem dX4_moveOfCircle_1 : decode cX4_moveOfCircle 1 = .ok (.iload_n 1, 1) := by decide +kernel
theorem dX4_moveOfCircle_2 : decode cX4_moveOfCircle 2 = .ok (.iload_n 2, 1) := by decide +kernel
theorem dX4_moveOfCircle_3 : decode cX4_moveOfCircle 3 = .ok (.invokevirtual 67, 3) := by decide +kernel
theorem dX4_moveOfCircle_6 : decode cX4_moveOfCircle 6 = .ok (.ifCond .lt 5, 3) := by decide +kernel
theorem dX4_moveOfCircle_9 : decode cX4_moveOfCircle 9 = .ok (.iload_n 2, 1) := by decide +kernel
theorem dX4_moveOfCircle_10 : decode cX4_moveOfCircle 10 = .ok (.ireturn, 1) := by decide +kernel
theorem dX4_moveOfCircle_11 : decode cX4_moveOfCircle 11 = .ok (.aload_n 0, 1) := by decide +kernel
theorem dX4_moveOfCircle_12 : decode cX4_moveOfCircle 12 = .ok (.iload_n 1, 1) := by decide +kernel
theorem dX4_moveOfCircle_13 : decode cX4_moveOfCircle 13 = .ok (.iconst 1, 1) := by decide +kernel
theorem dX4_moveOfCircle_14 : decode cX4_moveOfCircle 14 = .ok (.iload_n 2, 1) := by decide +kernel
theorem dX4_moveOfCircle_15 : decode cX4_moveOfCircle 15 = .ok (.isub, 1) := by decide +kernel
theorem dX4_moveOfCircle_16 : decode cX4_moveOfCircle 16 = .ok (.invokevirtual 67, 3) := by decide +kernel
theorem dX4_moveOfCircle_19 : decode cX4_moveOfCircle 19 = .ok (.ifCond .lt 9, 3) := by decide +kernel
theorem dX4_moveOfCircle_22 : decode cX4_moveOfCircle 22 = .ok (.iconst 1, 1) := by decide +kernel
theorem dX4_moveOfCircle_23 : decode cX4_moveOfCircle 23 = .ok (.iload_n 2, 1) := by decide +kernel
theorem dX4_moveOfCircle_24 : decode cX4_moveOfCircle 24 = .ok (.isub, 1) := by decide +kernel
theorem dX4_moveOfCircle_25 : decode cX4_moveOfCircle 25 = .ok (.goto 4, 3) := by decide +kernel
theorem dX4_moveOfCircle_28 : decode cX4_moveOfCircle 28 = .ok (.iconst 2, 1) := by decide +kernel
theorem dX4_moveOfCircle_29 : decode cX4_moveOfCircle 29 = .ok (.ireturn, 1) := by decide +kernel
theorem dX4_movesAheadOfCircle_0 : decode cX4_movesAheadOfCircle 0 = .ok (.aload_n 0, 1) := by decide +kernel
theorem dX4_movesAheadOfCircle_1 : decode cX4_movesAheadOfCircle 1 = .ok (.iconst 1, 1) := by decide +kernel
theorem dX4_movesAheadOfCircle_2 : decode cX4_movesAheadOfCircle 2 = .ok (.invokevirtual 96, 3) := by decide +kernel
theorem dX4_movesAheadOfCircle_5 : decode cX4_movesAheadOfCircle 5 = .ok (.ireturn, 1) := by decide +kernel
theorem dX4_movesOfCircle_0 : decode cX4_movesOfCircle 0 = .ok (.aload_n 0, 1) := by decide +kernel
theorem dX4_movesOfCircle_1 : decode cX4_movesOfCircle 1 = .ok (.iconst 0, 1) := by decide +kernel
theorem dX4_movesOfCircle_2 : decode cX4_movesOfCircle 2 = .ok (.invokevirtual 96, 3) := by decide +kernel
theorem dX4_movesOfCircle_5 : decode cX4_movesOfCircle 5 = .ok (.ireturn, 1) := by decide +kernel
theorem dX4_circle_0 : decode cX4_circle 0 = .ok (.iconst 0, 1) := by decide +kernel
theorem dX4_circle_1 : decode cX4_circle 1 = .ok (.istore_n 2, 1) := by decide +kernel
theorem dX4_circle_2 : decode cX4_circle 2 = .ok (.iload_n 2, 1) := by decide +kernel
theorem dX4_circle_3 : decode cX4_circle 3 = .ok (.aload_n 0, 1) := by decide +kernel
theorem dX4_circle_4 : decode cX4_circle 4 = .ok (.getfield 18, 3) := by decide +kernel
theorem dX4_circle_7 : decode cX4_circle 7 = .ok (.arraylength, 1) := by decide +kernel
theorem dX4_circle_8 : decode cX4_circle 8 = .ok (.if_icmp .ge 17, 3) := by decide +kernel
theorem dX4_circle_11 : decode cX4_circle 11 = .ok (.aload_n 0, 1) := by decide +kernel
theorem dX4_circle_12 : decode cX4_circle 12 = .ok (.getfield 18, 3) := by decide +kernel
theorem dX4_circle_15 : decode cX4_circle 15 = .ok (.iload_n 2, 1) := by decide +kernel
theorem dX4_circle_16 : decode cX4_circle 16 = .ok (.bipush (-4), 2) := by decide +kernel
theorem dX4_circle_18 : decode cX4_circle 18 = .ok (.iastore, 1) := by decide +kernel
theorem dX4_circle_19 : decode cX4_circle 19 = .ok (.iinc 2 1, 3) := by decide +kernel
theorem dX4_circle_22 : decode cX4_circle 22 = .ok (.goto (-20), 3) := by decide +kernel
theorem dX4_circle_25 : decode cX4_circle 25 = .ok (.aload_n 0, 1) := by decide +kernel
theorem dX4_circle_26 : decode cX4_circle 26 = .ok (.getfield 40, 3) := by decide +kernel
theorem dX4_circle_29 : decode cX4_circle 29 = .ok (.istore_n 2, 1) := by decide +kernel
theorem dX4_circle_30 : decode cX4_circle 30 = .ok (.iconst 0, 1) := by decide +kernel
theorem dX4_circle_31 : decode cX4_circle 31 = .ok (.istore_n 3, 1) := by decide +kernel
theorem dX4_circle_32 : decode cX4_circle 32 = .ok (.iload_n 3, 1) := by decide +kernel
theorem dX4_circle_33 : decode cX4_circle 33 = .ok (.aload_n 0, 1) := by decide +kernel
theorem dX4_circle_34 : decode cX4_circle 34 = .ok (.getfield 18, 3) := by decide +kernel
theorem dX4_circle_37 : decode cX4_circle 37 = .ok (.arraylength, 1) := by decide +kernel
theorem dX4_circle_38 : decode cX4_circle 38 = .ok (.if_icmp .gt 95, 3) := by decide +kernel
theorem dX4_circle_41 : decode cX4_circle 41 = .ok (.iload_n 3, 1) := by decide +kernel
theorem dX4_circle_42 : decode cX4_circle 42 = .ok (.iconst 2, 1) := by decide +kernel
theorem dX4_circle_43 : decode cX4_circle 43 = .ok (.irem, 1) := by decide +kernel
theorem dX4_circle_44 : decode cX4_circle 44 = .ok (.istore 4, 2) := by decide +kernel
theorem dX4_circle_46 : decode cX4_circle 46 = .ok (.iload_n 2, 1) := by decide +kernel
theorem dX4_circle_47 : decode cX4_circle 47 = .ok (.iconst 2, 1) := by decide +kernel
theorem dX4_circle_48 : decode cX4_circle 48 = .ok (.imul, 1) := by decide +kernel
theorem dX4_circle_49 : decode cX4_circle 49 = .ok (.iload 4, 2) := by decide +kernel
theorem dX4_circle_51 : decode cX4_circle 51 = .ok (.iadd, 1) := by decide +kernel
theorem dX4_circle_52 : decode cX4_circle 52 = .ok (.istore 5, 2) := by decide +kernel
theorem dX4_circle_54 : decode cX4_circle 54 = .ok (.iload 5, 2) := by decide +kernel
theorem dX4_circle_56 : decode cX4_circle 56 = .ok (.ifCond .lt 13, 3) := by decide +kernel
theorem dX4_circle_59 : decode cX4_circle 59 = .ok (.iload 5, 2) := by decide +kernel
theorem dX4_circle_61 : decode cX4_circle 61 = .ok (.aload_n 0, 1) := by decide +kernel
theorem dX4_circle_62 : decode cX4_circle 62 = .ok (.getfield 18, 3) := by decide +kernel
theorem dX4_circle_65 : decode cX4_circle 65 = .ok (.arraylength, 1) := by decide +kernel
theorem dX4_circle_66 : decode cX4_circle 66 = .ok (.if_icmp .lt 6, 3) := by decide +kernel
theorem dX4_circle_69 : decode cX4_circle 69 = .ok (.bipush (-4), 2) := by decide +kernel
theorem dX4_circle_71 : decode cX4_circle 71 = .ok (.ireturn, 1) := by decide +kernel
theorem dX4_circle_72 : decode cX4_circle 72 = .ok (.aload_n 0, 1) := by decide +kernel
theorem dX4_circle_73 : decode cX4_circle 73 = .ok (.getfield 18, 3) := by decide +kernel
theorem dX4_circle_76 : decode cX4_circle 76 = .ok (.iload 5, 2) := by decide +kernel
theorem dX4_circle_78 : decode cX4_circle 78 = .ok (.iaload, 1) := by decide +kernel
theorem dX4_circle_79 : decode cX4_circle 79 = .ok (.ifCond .lt 27, 3) := by decide +kernel
theorem dX4_circle_82 : decode cX4_circle 82 = .ok (.iload_n 1, 1) := by decide +kernel
theorem dX4_circle_83 : decode cX4_circle 83 = .ok (.ifCond .eq 13, 3) := by decide +kernel
theorem dX4_circle_86 : decode cX4_circle 86 = .ok (.aload_n 0, 1) := by decide +kernel
theorem dX4_circle_87 : decode cX4_circle 87 = .ok (.getfield 18, 3) := by decide +kernel
theorem dX4_circle_90 : decode cX4_circle 90 = .ok (.iload 5, 2) := by decide +kernel
theorem dX4_circle_92 : decode cX4_circle 92 = .ok (.iaload, 1) := by decide +kernel
theorem dX4_circle_93 : decode cX4_circle 93 = .ok (.goto 12, 3) := by decide +kernel
theorem dX4_circle_96 : decode cX4_circle 96 = .ok (.iload_n 3, 1) := by decide +kernel
theorem dX4_circle_97 : decode cX4_circle 97 = .ok (.aload_n 0, 1) := by decide +kernel
theorem dX4_circle_98 : decode cX4_circle 98 = .ok (.getfield 18, 3) := by decide +kernel
theorem dX4_circle_101 : decode cX4_circle 101 = .ok (.iload 5, 2) := by decide +kernel
theorem dX4_circle_103 : decode cX4_circle 103 = .ok (.iaload, 1) := by decide +kernel
theorem dX4_circle_104 : decode cX4_circle 104 = .ok (.isub, 1) := by decide +kernel
theorem dX4_circle_105 : decode cX4_circle 105 = .ok (.ireturn, 1) := by decide +kernel
theorem dX4_circle_106 : decode cX4_circle 106 = .ok (.aload_n 0, 1) := by decide +kernel
theorem dX4_circle_107 : decode cX4_circle 107 = .ok (.getfield 18, 3) := by decide +kernel
theorem dX4_circle_110 : decode cX4_circle 110 = .ok (.iload 5, 2) := by decide +kernel
theorem dX4_circle_112 : decode cX4_circle 112 = .ok (.iload_n 3, 1) := by decide +kernel
theorem dX4_circle_113 : decode cX4_circle 113 = .ok (.iastore, 1) := by decide +kernel
theorem dX4_circle_114 : decode cX4_circle 114 = .ok (.aload_n 0, 1) := by decide +kernel
theorem dX4_circle_115 : decode cX4_circle 115 = .ok (.iload_n 2, 1) := by decide +kernel
theorem dX4_circle_116 : decode cX4_circle 116 = .ok (.aload_n 0, 1) := by decide +kernel
theorem dX4_circle_117 : decode cX4_circle 117 = .ok (.iload_n 2, 1) := by decide +kernel
theorem dX4_circle_118 : decode cX4_circle 118 = .ok (.iload 4, 2) := by decide +kernel
theorem dX4_circle_120 : decode cX4_circle 120 = .ok (.invokevirtual 100, 3) := by decide +kernel
theorem dX4_circle_123 : decode cX4_circle 123 = .ok (.invokevirtual 67, 3) := by decide +kernel
theorem dX4_circle_126 : decode cX4_circle 126 = .ok (.istore_n 2, 1) := by decide +kernel
theorem dX4_circle_127 : decode cX4_circle 127 = .ok (.iinc 3 1, 3) := by decide +kernel
theorem dX4_circle_130 : decode cX4_circle 130 = .ok (.goto (-98), 3) := by decide +kernel
theorem dX4_circle_133 : decode cX4_circle 133 = .ok (.bipush (-4), 2) := by decide +kernel
theorem dX4_circle_135 : decode cX4_circle 135 = .ok (.ireturn, 1) := by decide +kernel
theorem dX4_writeCircle_0 : decode cX4_writeCircle 0 = .ok (.aload_n 0, 1) := by decide +kernel
theorem dX4_writeCircle_1 : decode cX4_writeCircle 1 = .ok (.getfield 40, 3) := by decide +kernel
theorem dX4_writeCircle_4 : decode cX4_writeCircle 4 = .ok (.istore 4, 2) := by decide +kernel
theorem dX4_writeCircle_6 : decode cX4_writeCircle 6 = .ok (.iconst 0, 1) := by decide +kernel
theorem dX4_writeCircle_7 : decode cX4_writeCircle 7 = .ok (.istore 5, 2) := by decide +kernel
theorem dX4_writeCircle_9 : decode cX4_writeCircle 9 = .ok (.iload 5, 2) := by decide +kernel
theorem dX4_writeCircle_11 : decode cX4_writeCircle 11 = .ok (.iload_n 3, 1) := by decide +kernel
theorem dX4_writeCircle_12 : decode cX4_writeCircle 12 = .ok (.if_icmp .ge 42, 3) := by decide +kernel
theorem dX4_writeCircle_15 : decode cX4_writeCircle 15 = .ok (.aload_n 0, 1) := by decide +kernel
theorem dX4_writeCircle_16 : decode cX4_writeCircle 16 = .ok (.iload 4, 2) := by decide +kernel
theorem dX4_writeCircle_18 : decode cX4_writeCircle 18 = .ok (.aload_n 0, 1) := by decide +kernel
theorem dX4_writeCircle_19 : decode cX4_writeCircle 19 = .ok (.iload 4, 2) := by decide +kernel
theorem dX4_writeCircle_21 : decode cX4_writeCircle 21 = .ok (.iload 5, 2) := by decide +kernel
theorem dX4_writeCircle_23 : decode cX4_writeCircle 23 = .ok (.iconst 2, 1) := by decide +kernel
theorem dX4_writeCircle_24 : decode cX4_writeCircle 24 = .ok (.irem, 1) := by decide +kernel
theorem dX4_writeCircle_25 : decode cX4_writeCircle 25 = .ok (.invokevirtual 100, 3) := by decide +kernel
theorem dX4_writeCircle_28 : decode cX4_writeCircle 28 = .ok (.invokevirtual 67, 3) := by decide +kernel
theorem dX4_writeCircle_31 : decode cX4_writeCircle 31 = .ok (.istore 4, 2) := by decide +kernel
theorem dX4_writeCircle_33 : decode cX4_writeCircle 33 = .ok (.aload_n 1, 1) := by decide +kernel
theorem dX4_writeCircle_34 : decode cX4_writeCircle 34 = .ok (.iload_n 2, 1) := by decide +kernel
theorem dX4_writeCircle_35 : decode cX4_writeCircle 35 = .ok (.iload 5, 2) := by decide +kernel
theorem dX4_writeCircle_37 : decode cX4_writeCircle 37 = .ok (.iadd, 1) := by decide +kernel
theorem dX4_writeCircle_38 : decode cX4_writeCircle 38 = .ok (.iload 4, 2) := by decide +kernel
theorem dX4_writeCircle_40 : decode cX4_writeCircle 40 = .ok (.invokestatic 47, 3) := by decide +kernel
theorem dX4_writeCircle_43 : decode cX4_writeCircle 43 = .ok (.i2l, 1) := by decide +kernel
theorem dX4_writeCircle_44 : decode cX4_writeCircle 44 = .ok (.invokevirtual 103, 3) := by decide +kernel
theorem dX4_writeCircle_47 : decode cX4_writeCircle 47 = .ok (.pop2, 1) := by decide +kernel
theorem dX4_writeCircle_48 : decode cX4_writeCircle 48 = .ok (.iinc 5 1, 3) := by decide +kernel
theorem dX4_writeCircle_51 : decode cX4_writeCircle 51 = .ok (.goto (-42), 3) := by decide +kernel
theorem dX4_writeCircle_54 : decode cX4_writeCircle 54 = .ok (.return_, 1) := by decide +kernel
