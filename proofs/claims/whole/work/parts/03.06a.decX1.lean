theorem dX1_init_0 : decode cX1_init 0 = .ok (.aload_n 0, 1) := by decide +kernel
theorem dX1_init_1 : decode cX1_init 1 = .ok (.invokespecial 3, 3) := by decide +kernel
theorem dX1_init_4 : decode cX1_init 4 = .ok (.aload_n 0, 1) := by decide +kernel
theorem dX1_init_5 : decode cX1_init 5 = .ok (.bipush 7, 2) := by decide +kernel
theorem dX1_init_7 : decode cX1_init 7 = .ok (.anewarray 9, 3) := by decide +kernel
theorem dX1_init_10 : decode cX1_init 10 = .ok (.putfield 11, 3) := by decide +kernel
theorem dX1_init_13 : decode cX1_init 13 = .ok (.iconst 0, 1) := by decide +kernel
theorem dX1_init_14 : decode cX1_init 14 = .ok (.istore_n 1, 1) := by decide +kernel
theorem dX1_init_15 : decode cX1_init 15 = .ok (.iload_n 1, 1) := by decide +kernel
theorem dX1_init_16 : decode cX1_init 16 = .ok (.aload_n 0, 1) := by decide +kernel
theorem dX1_init_17 : decode cX1_init 17 = .ok (.getfield 11, 3) := by decide +kernel
theorem dX1_init_20 : decode cX1_init 20 = .ok (.arraylength, 1) := by decide +kernel
theorem dX1_init_21 : decode cX1_init 21 = .ok (.if_icmp .ge 22, 3) := by decide +kernel
theorem dX1_init_24 : decode cX1_init 24 = .ok (.aload_n 0, 1) := by decide +kernel
theorem dX1_init_25 : decode cX1_init 25 = .ok (.getfield 11, 3) := by decide +kernel
theorem dX1_init_28 : decode cX1_init 28 = .ok (.iload_n 1, 1) := by decide +kernel
theorem dX1_init_29 : decode cX1_init 29 = .ok (.new 9, 3) := by decide +kernel
theorem dX1_init_32 : decode cX1_init 32 = .ok (.dup, 1) := by decide +kernel
theorem dX1_init_33 : decode cX1_init 33 = .ok (.invokespecial 17, 3) := by decide +kernel
theorem dX1_init_36 : decode cX1_init 36 = .ok (.aastore, 1) := by decide +kernel
theorem dX1_init_37 : decode cX1_init 37 = .ok (.iinc 1 1, 3) := by decide +kernel
theorem dX1_init_40 : decode cX1_init 40 = .ok (.goto (-25), 3) := by decide +kernel
theorem dX1_init_43 : decode cX1_init 43 = .ok (.return_, 1) := by decide +kernel
theorem dX1_partsOf_0 : decode cX1_partsOf 0 = .ok (.iload_n 2, 1) := by decide +kernel
theorem dX1_partsOf_1 : decode cX1_partsOf 1 = .ok (.ifCond .lt 12, 3) := by decide +kernel
theorem dX1_partsOf_4 : decode cX1_partsOf 4 = .ok (.iload_n 2, 1) := by decide +kernel
theorem dX1_partsOf_5 : decode cX1_partsOf 5 = .ok (.aload_n 0, 1) := by decide +kernel
theorem dX1_partsOf_6 : decode cX1_partsOf 6 = .ok (.getfield 11, 3) := by decide +kernel
theorem dX1_partsOf_9 : decode cX1_partsOf 9 = .ok (.arraylength, 1) := by decide +kernel
theorem dX1_partsOf_10 : decode cX1_partsOf 10 = .ok (.if_icmp .lt 5, 3) := by decide +kernel
theorem dX1_partsOf_13 : decode cX1_partsOf 13 = .ok (.iconst 0, 1) := by decide +kernel
theorem dX1_partsOf_14 : decode cX1_partsOf 14 = .ok (.ireturn, 1) := by decide +kernel
theorem dX1_partsOf_15 : decode cX1_partsOf 15 = .ok (.aload_n 0, 1) := by decide +kernel
theorem dX1_partsOf_16 : decode cX1_partsOf 16 = .ok (.getfield 11, 3) := by decide +kernel
theorem dX1_partsOf_19 : decode cX1_partsOf 19 = .ok (.iload_n 2, 1) := by decide +kernel
theorem dX1_partsOf_20 : decode cX1_partsOf 20 = .ok (.aaload, 1) := by decide +kernel
theorem dX1_partsOf_21 : decode cX1_partsOf 21 = .ok (.aload_n 1, 1) := by decide +kernel
theorem dX1_partsOf_22 : decode cX1_partsOf 22 = .ok (.invokevirtual 18, 3) := by decide +kernel
theorem dX1_partsOf_25 : decode cX1_partsOf 25 = .ok (.aload_n 0, 1) := by decide +kernel
theorem dX1_partsOf_26 : decode cX1_partsOf 26 = .ok (.iload_n 2, 1) := by decide +kernel
theorem dX1_partsOf_27 : decode cX1_partsOf 27 = .ok (.iload_n 3, 1) := by decide +kernel
theorem dX1_partsOf_28 : decode cX1_partsOf 28 = .ok (.iload 4, 2) := by decide +kernel
theorem dX1_partsOf_30 : decode cX1_partsOf 30 = .ok (.invokevirtual 22, 3) := by decide +kernel
theorem dX1_partsOf_33 : decode cX1_partsOf 33 = .ok (.ireturn, 1) := by decide +kernel
theorem dX1_parts_0 : decode cX1_parts 0 = .ok (.iload_n 1, 1) := by decide +kernel
theorem dX1_parts_1 : decode cX1_parts 1 = .ok (.ifCond .le 12, 3) := by decide +kernel
theorem dX1_parts_4 : decode cX1_parts 4 = .ok (.iload_n 1, 1) := by decide +kernel
theorem dX1_parts_5 : decode cX1_parts 5 = .ok (.aload_n 0, 1) := by decide +kernel
theorem dX1_parts_6 : decode cX1_parts 6 = .ok (.getfield 11, 3) := by decide +kernel
theorem dX1_parts_9 : decode cX1_parts 9 = .ok (.arraylength, 1) := by decide +kernel
theorem dX1_parts_10 : decode cX1_parts 10 = .ok (.if_icmp .lt 22, 3) := by decide +kernel
theorem dX1_parts_13 : decode cX1_parts 13 = .ok (.aload_n 0, 1) := by decide +kernel
theorem dX1_parts_14 : decode cX1_parts 14 = .ok (.getfield 11, 3) := by decide +kernel
theorem dX1_parts_17 : decode cX1_parts 17 = .ok (.iconst 0, 1) := by decide +kernel
theorem dX1_parts_18 : decode cX1_parts 18 = .ok (.aaload, 1) := by decide +kernel
theorem dX1_parts_19 : decode cX1_parts 19 = .ok (.getfield 26, 3) := by decide +kernel
theorem dX1_parts_22 : decode cX1_parts 22 = .ok (.iload_n 2, 1) := by decide +kernel
theorem dX1_parts_23 : decode cX1_parts 23 = .ok (.if_icmp .ne 7, 3) := by decide +kernel
theorem dX1_parts_26 : decode cX1_parts 26 = .ok (.iconst 1, 1) := by decide +kernel
theorem dX1_parts_27 : decode cX1_parts 27 = .ok (.goto 4, 3) := by decide +kernel
theorem dX1_parts_30 : decode cX1_parts 30 = .ok (.iconst 0, 1) := by decide +kernel
theorem dX1_parts_31 : decode cX1_parts 31 = .ok (.ireturn, 1) := by decide +kernel
theorem dX1_parts_32 : decode cX1_parts 32 = .ok (.iconst 0, 1) := by decide +kernel
theorem dX1_parts_33 : decode cX1_parts 33 = .ok (.istore 4, 2) := by decide +kernel
theorem dX1_parts_35 : decode cX1_parts 35 = .ok (.iconst 0, 1) := by decide +kernel
theorem dX1_parts_36 : decode cX1_parts 36 = .ok (.istore 5, 2) := by decide +kernel
theorem dX1_parts_38 : decode cX1_parts 38 = .ok (.iload 5, 2) := by decide +kernel
theorem dX1_parts_40 : decode cX1_parts 40 = .ok (.iconst 1, 1) := by decide +kernel
theorem dX1_parts_41 : decode cX1_parts 41 = .ok (.if_icmp .gt 71, 3) := by decide +kernel
theorem dX1_parts_44 : decode cX1_parts 44 = .ok (.iload 5, 2) := by decide +kernel
theorem dX1_parts_46 : decode cX1_parts 46 = .ok (.ifCond .ne 7, 3) := by decide +kernel
theorem dX1_parts_49 : decode cX1_parts 49 = .ok (.iload_n 3, 1) := by decide +kernel
theorem dX1_parts_50 : decode cX1_parts 50 = .ok (.goto 7, 3) := by decide +kernel
theorem dX1_parts_53 : decode cX1_parts 53 = .ok (.bipush 10, 2) := by decide +kernel
theorem dX1_parts_55 : decode cX1_parts 55 = .ok (.iload_n 3, 1) := by decide +kernel
theorem dX1_parts_56 : decode cX1_parts 56 = .ok (.isub, 1) := by decide +kernel
theorem dX1_parts_57 : decode cX1_parts 57 = .ok (.istore 6, 2) := by decide +kernel
theorem dX1_parts_59 : decode cX1_parts 59 = .ok (.iload 6, 2) := by decide +kernel
theorem dX1_parts_61 : decode cX1_parts 61 = .ok (.ifCond .le 45, 3) := by decide +kernel
theorem dX1_parts_64 : decode cX1_parts 64 = .ok (.aload_n 0, 1) := by decide +kernel
theorem dX1_parts_65 : decode cX1_parts 65 = .ok (.iload_n 1, 1) := by decide +kernel
theorem dX1_parts_66 : decode cX1_parts 66 = .ok (.aload_n 0, 1) := by decide +kernel
theorem dX1_parts_67 : decode cX1_parts 67 = .ok (.getfield 11, 3) := by decide +kernel
theorem dX1_parts_70 : decode cX1_parts 70 = .ok (.iload_n 1, 1) := by decide +kernel
theorem dX1_parts_71 : decode cX1_parts 71 = .ok (.aaload, 1) := by decide +kernel
theorem dX1_parts_72 : decode cX1_parts 72 = .ok (.iload 5, 2) := by decide +kernel
theorem dX1_parts_74 : decode cX1_parts 74 = .ok (.invokevirtual 30, 3) := by decide +kernel
theorem dX1_parts_77 : decode cX1_parts 77 = .ok (.ifCond .eq 8, 3) := by decide +kernel
theorem dX1_parts_80 : decode cX1_parts 80 = .ok (.iload 5, 2) := by decide +kernel
theorem dX1_parts_82 : decode cX1_parts 82 = .ok (.goto 4, 3) := by decide +kernel
theorem dX1_parts_85 : decode cX1_parts 85 = .ok (.iconst 2, 1) := by decide +kernel
theorem dX1_parts_86 : decode cX1_parts 86 = .ok (.invokevirtual 34, 3) := by decide +kernel
theorem dX1_parts_89 : decode cX1_parts 89 = .ok (.iload 4, 2) := by decide +kernel
theorem dX1_parts_91 : decode cX1_parts 91 = .ok (.iload 6, 2) := by decide +kernel
theorem dX1_parts_93 : decode cX1_parts 93 = .ok (.aload_n 0, 1) := by decide +kernel
theorem dX1_parts_94 : decode cX1_parts 94 = .ok (.iload_n 1, 1) := by decide +kernel
theorem dX1_parts_95 : decode cX1_parts 95 = .ok (.iconst 1, 1) := by decide +kernel
theorem dX1_parts_96 : decode cX1_parts 96 = .ok (.isub, 1) := by decide +kernel
theorem dX1_parts_97 : decode cX1_parts 97 = .ok (.iload_n 2, 1) := by decide +kernel
theorem dX1_parts_98 : decode cX1_parts 98 = .ok (.iload_n 3, 1) := by decide +kernel
theorem dX1_parts_99 : decode cX1_parts 99 = .ok (.invokevirtual 22, 3) := by decide +kernel
theorem dX1_parts_102 : decode cX1_parts 102 = .ok (.imul, 1) := by decide +kernel
theorem dX1_parts_103 : decode cX1_parts 103 = .ok (.iadd, 1) := by decide +kernel
theorem dX1_parts_104 : decode cX1_parts 104 = .ok (.istore 4, 2) := by decide +kernel
theorem dX1_parts_106 : decode cX1_parts 106 = .ok (.iinc 5 1, 3) := by decide +kernel
theorem dX1_parts_109 : decode cX1_parts 109 = .ok (.goto (-71), 3) := by decide +kernel
theorem dX1_parts_112 : decode cX1_parts 112 = .ok (.iload 4, 2) := by decide +kernel
theorem dX1_parts_114 : decode cX1_parts 114 = .ok (.ireturn, 1) := by decide +kernel
theorem dX1_gainOf_0 : decode cX1_gainOf 0 = .ok (.iload_n 2, 1) := by decide +kernel
theorem dX1_gainOf_1 : decode cX1_gainOf 1 = .ok (.ifCond .lt 12, 3) := by decide +kernel
theorem dX1_gainOf_4 : decode cX1_gainOf 4 = .ok (.iload_n 2, 1) := by decide +kernel
theorem dX1_gainOf_5 : decode cX1_gainOf 5 = .ok (.aload_n 0, 1) := by decide +kernel
theorem dX1_gainOf_6 : decode cX1_gainOf 6 = .ok (.getfield 11, 3) := by decide +kernel
theorem dX1_gainOf_9 : decode cX1_gainOf 9 = .ok (.arraylength, 1) := by decide +kernel
theorem dX1_gainOf_10 : decode cX1_gainOf 10 = .ok (.if_icmp .lt 5, 3) := by decide +kernel
theorem dX1_gainOf_13 : decode cX1_gainOf 13 = .ok (.iconst 0, 1) := by decide +kernel
theorem dX1_gainOf_14 : decode cX1_gainOf 14 = .ok (.ireturn, 1) := by decide +kernel
theorem dX1_gainOf_15 : decode cX1_gainOf 15 = .ok (.aload_n 0, 1) := by decide +kernel
theorem dX1_gainOf_16 : decode cX1_gainOf 16 = .ok (.getfield 11, 3) := by decide +kernel
theorem dX1_gainOf_19 : decode cX1_gainOf 19 = .ok (.iload_n 2, 1) := by decide +kernel
theorem dX1_gainOf_20 : decode cX1_gainOf 20 = .ok (.aaload, 1) := by decide +kernel
theorem dX1_gainOf_21 : decode cX1_gainOf 21 = .ok (.aload_n 1, 1) := by decide +kernel
theorem dX1_gainOf_22 : decode cX1_gainOf 22 = .ok (.invokevirtual 18, 3) := by decide +kernel
theorem dX1_gainOf_25 : decode cX1_gainOf 25 = .ok (.aload_n 0, 1) := by decide +kernel
theorem dX1_gainOf_26 : decode cX1_gainOf 26 = .ok (.iload_n 2, 1) := by decide +kernel
theorem dX1_gainOf_27 : decode cX1_gainOf 27 = .ok (.invokevirtual 38, 3) := by decide +kernel
theorem dX1_gainOf_30 : decode cX1_gainOf 30 = .ok (.ireturn, 1) := by decide +kernel
theorem dX1_gain_0 : decode cX1_gain 0 = .ok (.iload_n 1, 1) := by decide +kernel
theorem dX1_gain_1 : decode cX1_gain 1 = .ok (.ifCond .le 12, 3) := by decide +kernel
theorem dX1_gain_4 : decode cX1_gain 4 = .ok (.iload_n 1, 1) := by decide +kernel
theorem dX1_gain_5 : decode cX1_gain 5 = .ok (.aload_n 0, 1) := by decide +kernel
theorem dX1_gain_6 : decode cX1_gain 6 = .ok (.getfield 11, 3) := by decide +kernel
theorem dX1_gain_9 : decode cX1_gain 9 = .ok (.arraylength, 1) := by decide +kernel
theorem dX1_gain_10 : decode cX1_gain 10 = .ok (.if_icmp .lt 5, 3) := by decide +kernel
theorem dX1_gain_13 : decode cX1_gain 13 = .ok (.iconst 0, 1) := by decide +kernel
theorem dX1_gain_14 : decode cX1_gain 14 = .ok (.ireturn, 1) := by decide +kernel
theorem dX1_gain_15 : decode cX1_gain 15 = .ok (.sipush (-1000), 3) := by decide +kernel
theorem dX1_gain_18 : decode cX1_gain 18 = .ok (.istore_n 2, 1) := by decide +kernel
theorem dX1_gain_19 : decode cX1_gain 19 = .ok (.iconst 0, 1) := by decide +kernel
theorem dX1_gain_20 : decode cX1_gain 20 = .ok (.istore_n 3, 1) := by decide +kernel
theorem dX1_gain_21 : decode cX1_gain 21 = .ok (.iload_n 3, 1) := by decide +kernel
theorem dX1_gain_22 : decode cX1_gain 22 = .ok (.iconst 3, 1) := by decide +kernel
theorem dX1_gain_23 : decode cX1_gain 23 = .ok (.if_icmp .ge 69, 3) := by decide +kernel
theorem dX1_gain_26 : decode cX1_gain 26 = .ok (.aload_n 0, 1) := by decide +kernel
theorem dX1_gain_27 : decode cX1_gain 27 = .ok (.getfield 11, 3) := by decide +kernel
theorem dX1_gain_30 : decode cX1_gain 30 = .ok (.iload_n 1, 1) := by decide +kernel
theorem dX1_gain_31 : decode cX1_gain 31 = .ok (.aaload, 1) := by decide +kernel
theorem dX1_gain_32 : decode cX1_gain 32 = .ok (.iload_n 3, 1) := by decide +kernel
theorem dX1_gain_33 : decode cX1_gain 33 = .ok (.invokevirtual 42, 3) := by decide +kernel
theorem dX1_gain_36 : decode cX1_gain 36 = .ok (.istore 4, 2) := by decide +kernel
theorem dX1_gain_38 : decode cX1_gain 38 = .ok (.iload 4, 2) := by decide +kernel
theorem dX1_gain_40 : decode cX1_gain 40 = .ok (.ifCond .lt 46, 3) := by decide +kernel
theorem dX1_gain_43 : decode cX1_gain 43 = .ok (.iload_n 3, 1) := by decide +kernel
theorem dX1_gain_44 : decode cX1_gain 44 = .ok (.iconst 2, 1) := by decide +kernel
theorem dX1_gain_45 : decode cX1_gain 45 = .ok (.if_icmp .ne 7, 3) := by decide +kernel
theorem dX1_gain_48 : decode cX1_gain 48 = .ok (.iconst 0, 1) := by decide +kernel
theorem dX1_gain_49 : decode cX1_gain 49 = .ok (.goto 14, 3) := by decide +kernel
theorem dX1_gain_52 : decode cX1_gain 52 = .ok (.aload_n 0, 1) := by decide +kernel
theorem dX1_gain_53 : decode cX1_gain 53 = .ok (.getfield 11, 3) := by decide +kernel
theorem dX1_gain_56 : decode cX1_gain 56 = .ok (.iload_n 1, 1) := by decide +kernel
theorem dX1_gain_57 : decode cX1_gain 57 = .ok (.aaload, 1) := by decide +kernel
theorem dX1_gain_58 : decode cX1_gain 58 = .ok (.iload 4, 2) := by decide +kernel
theorem dX1_gain_60 : decode cX1_gain 60 = .ok (.invokevirtual 45, 3) := by decide +kernel
theorem dX1_gain_63 : decode cX1_gain 63 = .ok (.istore 5, 2) := by decide +kernel
theorem dX1_gain_65 : decode cX1_gain 65 = .ok (.aload_n 0, 1) := by decide +kernel
theorem dX1_gain_66 : decode cX1_gain 66 = .ok (.iload_n 1, 1) := by decide +kernel
theorem dX1_gain_67 : decode cX1_gain 67 = .ok (.iload_n 3, 1) := by decide +kernel
theorem dX1_gain_68 : decode cX1_gain 68 = .ok (.invokevirtual 34, 3) := by decide +kernel
theorem dX1_gain_71 : decode cX1_gain 71 = .ok (.iload_n 2, 1) := by decide +kernel
theorem dX1_gain_72 : decode cX1_gain 72 = .ok (.iload 5, 2) := by decide +kernel
theorem dX1_gain_74 : decode cX1_gain 74 = .ok (.aload_n 0, 1) := by decide +kernel
theorem dX1_gain_75 : decode cX1_gain 75 = .ok (.iload_n 1, 1) := by decide +kernel
theorem dX1_gain_76 : decode cX1_gain 76 = .ok (.iconst 1, 1) := by decide +kernel
theorem dX1_gain_77 : decode cX1_gain 77 = .ok (.isub, 1) := by decide +kernel
theorem dX1_gain_78 : decode cX1_gain 78 = .ok (.invokevirtual 38, 3) := by decide +kernel
theorem dX1_gain_81 : decode cX1_gain 81 = .ok (.isub, 1) := by decide +kernel
theorem dX1_gain_82 : decode cX1_gain 82 = .ok (.invokestatic 48, 3) := by decide +kernel
theorem dX1_gain_85 : decode cX1_gain 85 = .ok (.istore_n 2, 1) := by decide +kernel
theorem dX1_gain_86 : decode cX1_gain 86 = .ok (.iinc 3 1, 3) := by decide +kernel
theorem dX1_gain_89 : decode cX1_gain 89 = .ok (.goto (-68), 3) := by decide +kernel
theorem dX1_gain_92 : decode cX1_gain 92 = .ok (.iload_n 2, 1) := by decide +kernel
theorem dX1_gain_93 : decode cX1_gain 93 = .ok (.ireturn, 1) := by decide +kernel
theorem dX1_goOn_0 : decode cX1_goOn 0 = .ok (.iload_n 1, 1) := by decide +kernel
theorem dX1_goOn_1 : decode cX1_goOn 1 = .ok (.ifCond .le 41, 3) := by decide +kernel
theorem dX1_goOn_4 : decode cX1_goOn 4 = .ok (.iload_n 1, 1) := by decide +kernel
theorem dX1_goOn_5 : decode cX1_goOn 5 = .ok (.aload_n 0, 1) := by decide +kernel
theorem dX1_goOn_6 : decode cX1_goOn 6 = .ok (.getfield 11, 3) := by decide +kernel
theorem dX1_goOn_9 : decode cX1_goOn 9 = .ok (.arraylength, 1) := by decide +kernel
theorem dX1_goOn_10 : decode cX1_goOn 10 = .ok (.if_icmp .ge 32, 3) := by decide +kernel
theorem dX1_goOn_13 : decode cX1_goOn 13 = .ok (.aload_n 0, 1) := by decide +kernel
theorem dX1_goOn_14 : decode cX1_goOn 14 = .ok (.getfield 11, 3) := by decide +kernel
theorem dX1_goOn_17 : decode cX1_goOn 17 = .ok (.iload_n 1, 1) := by decide +kernel
theorem dX1_goOn_18 : decode cX1_goOn 18 = .ok (.iconst 1, 1) := by decide +kernel
theorem dX1_goOn_19 : decode cX1_goOn 19 = .ok (.isub, 1) := by decide +kernel
theorem dX1_goOn_20 : decode cX1_goOn 20 = .ok (.aaload, 1) := by decide +kernel
theorem dX1_goOn_21 : decode cX1_goOn 21 = .ok (.aload_n 0, 1) := by decide +kernel
theorem dX1_goOn_22 : decode cX1_goOn 22 = .ok (.getfield 11, 3) := by decide +kernel
theorem dX1_goOn_25 : decode cX1_goOn 25 = .ok (.iload_n 1, 1) := by decide +kernel
theorem dX1_goOn_26 : decode cX1_goOn 26 = .ok (.aaload, 1) := by decide +kernel
theorem dX1_goOn_27 : decode cX1_goOn 27 = .ok (.invokevirtual 18, 3) := by decide +kernel
theorem dX1_goOn_30 : decode cX1_goOn 30 = .ok (.aload_n 0, 1) := by decide +kernel
theorem dX1_goOn_31 : decode cX1_goOn 31 = .ok (.getfield 11, 3) := by decide +kernel
theorem dX1_goOn_34 : decode cX1_goOn 34 = .ok (.iload_n 1, 1) := by decide +kernel
theorem dX1_goOn_35 : decode cX1_goOn 35 = .ok (.iconst 1, 1) := by decide +kernel
theorem dX1_goOn_36 : decode cX1_goOn 36 = .ok (.isub, 1) := by decide +kernel
theorem dX1_goOn_37 : decode cX1_goOn 37 = .ok (.aaload, 1) := by decide +kernel
theorem dX1_goOn_38 : decode cX1_goOn 38 = .ok (.iload_n 2, 1) := by decide +kernel
theorem dX1_goOn_39 : decode cX1_goOn 39 = .ok (.invokevirtual 54, 3) := by decide +kernel
theorem dX1_goOn_42 : decode cX1_goOn 42 = .ok (.return_, 1) := by decide +kernel
theorem dX1_drawn_0 : decode cX1_drawn 0 = .ok (.aload_n 0, 1) := by decide +kernel
theorem dX1_drawn_1 : decode cX1_drawn 1 = .ok (.getfield 11, 3) := by decide +kernel
theorem dX1_drawn_4 : decode cX1_drawn 4 = .ok (.iconst 0, 1) := by decide +kernel
theorem dX1_drawn_5 : decode cX1_drawn 5 = .ok (.aaload, 1) := by decide +kernel
theorem dX1_drawn_6 : decode cX1_drawn 6 = .ok (.astore 4, 2) := by decide +kernel
theorem dX1_drawn_8 : decode cX1_drawn 8 = .ok (.aload 4, 2) := by decide +kernel
theorem dX1_drawn_10 : decode cX1_drawn 10 = .ok (.aload_n 1, 1) := by decide +kernel
theorem dX1_drawn_11 : decode cX1_drawn 11 = .ok (.invokevirtual 18, 3) := by decide +kernel
theorem dX1_drawn_14 : decode cX1_drawn 14 = .ok (.iload_n 3, 1) := by decide +kernel
theorem dX1_drawn_15 : decode cX1_drawn 15 = .ok (.i2l, 1) := by decide +kernel
theorem dX1_drawn_16 : decode cX1_drawn 16 = .ok (.lstore 5, 2) := by decide +kernel
theorem dX1_drawn_18 : decode cX1_drawn 18 = .ok (.iconst 0, 1) := by decide +kernel
theorem dX1_drawn_19 : decode cX1_drawn 19 = .ok (.istore 7, 2) := by decide +kernel
theorem dX1_drawn_21 : decode cX1_drawn 21 = .ok (.iload 7, 2) := by decide +kernel
theorem dX1_drawn_23 : decode cX1_drawn 23 = .ok (.iload_n 2, 1) := by decide +kernel
theorem dX1_drawn_24 : decode cX1_drawn 24 = .ok (.if_icmp .ge 55, 3) := by decide +kernel
theorem dX1_drawn_27 : decode cX1_drawn 27 = .ok (.ldc2_w 58, 3) := by decide +kernel
theorem dX1_drawn_30 : decode cX1_drawn 30 = .ok (.lload 5, 2) := by decide +kernel
theorem dX1_drawn_32 : decode cX1_drawn 32 = .ok (.lmul, 1) := by decide +kernel
theorem dX1_drawn_33 : decode cX1_drawn 33 = .ok (.ldc2_w 60, 3) := by decide +kernel
theorem dX1_drawn_36 : decode cX1_drawn 36 = .ok (.lrem, 1) := by decide +kernel
theorem dX1_drawn_37 : decode cX1_drawn 37 = .ok (.lstore 5, 2) := by decide +kernel
theorem dX1_drawn_39 : decode cX1_drawn 39 = .ok (.lload 5, 2) := by decide +kernel
theorem dX1_drawn_41 : decode cX1_drawn 41 = .ok (.ldc2_w 62, 3) := by decide +kernel
theorem dX1_drawn_44 : decode cX1_drawn 44 = .ok (.ldiv, 1) := by decide +kernel
theorem dX1_drawn_45 : decode cX1_drawn 45 = .ok (.ldc2_w 64, 3) := by decide +kernel
theorem dX1_drawn_48 : decode cX1_drawn 48 = .ok (.lrem, 1) := by decide +kernel
theorem dX1_drawn_49 : decode cX1_drawn 49 = .ok (.l2i, 1) := by decide +kernel
theorem dX1_drawn_50 : decode cX1_drawn 50 = .ok (.istore 8, 2) := by decide +kernel
theorem dX1_drawn_52 : decode cX1_drawn 52 = .ok (.aload 4, 2) := by decide +kernel
theorem dX1_drawn_54 : decode cX1_drawn 54 = .ok (.aload 4, 2) := by decide +kernel
theorem dX1_drawn_56 : decode cX1_drawn 56 = .ok (.iload 8, 2) := by decide +kernel
theorem dX1_drawn_58 : decode cX1_drawn 58 = .ok (.invokevirtual 30, 3) := by decide +kernel
theorem dX1_drawn_61 : decode cX1_drawn 61 = .ok (.ifCond .eq 8, 3) := by decide +kernel
theorem dX1_drawn_64 : decode cX1_drawn 64 = .ok (.iload 8, 2) := by decide +kernel
theorem dX1_drawn_66 : decode cX1_drawn 66 = .ok (.goto 4, 3) := by decide +kernel
theorem dX1_drawn_69 : decode cX1_drawn 69 = .ok (.iconst 2, 1) := by decide +kernel
theorem dX1_drawn_70 : decode cX1_drawn 70 = .ok (.invokevirtual 54, 3) := by decide +kernel
theorem dX1_drawn_73 : decode cX1_drawn 73 = .ok (.iinc 7 1, 3) := by decide +kernel
theorem dX1_drawn_76 : decode cX1_drawn 76 = .ok (.goto (-55), 3) := by decide +kernel
theorem dX1_drawn_79 : decode cX1_drawn 79 = .ok (.aload 4, 2) := by decide +kernel
theorem dX1_drawn_81 : decode cX1_drawn 81 = .ok (.areturn, 1) := by decide +kernel
