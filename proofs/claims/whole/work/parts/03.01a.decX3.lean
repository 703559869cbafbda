theorem dX3_byLetter_0 : decode cX3_byLetter 0 = .ok (.iload_n 0, 1) := by decide +kernel
theorem dX3_byLetter_1 : decode cX3_byLetter 1 = .ok (.lookupswitch 61 #[(98, 59), (103, 53), (112, 51), (115, 57), (116, 55)], 51) := by decide +kernel
theorem dX3_byLetter_52 : decode cX3_byLetter 52 = .ok (.iconst 1, 1) := by decide +kernel
theorem dX3_byLetter_53 : decode cX3_byLetter 53 = .ok (.ireturn, 1) := by decide +kernel
theorem dX3_byLetter_54 : decode cX3_byLetter 54 = .ok (.iconst 2, 1) := by decide +kernel
theorem dX3_byLetter_55 : decode cX3_byLetter 55 = .ok (.ireturn, 1) := by decide +kernel
theorem dX3_byLetter_56 : decode cX3_byLetter 56 = .ok (.iconst 3, 1) := by decide +kernel
theorem dX3_byLetter_57 : decode cX3_byLetter 57 = .ok (.ireturn, 1) := by decide +kernel
theorem dX3_byLetter_58 : decode cX3_byLetter 58 = .ok (.iconst 4, 1) := by decide +kernel
theorem dX3_byLetter_59 : decode cX3_byLetter 59 = .ok (.ireturn, 1) := by decide +kernel
theorem dX3_byLetter_60 : decode cX3_byLetter 60 = .ok (.iconst 5, 1) := by decide +kernel
theorem dX3_byLetter_61 : decode cX3_byLetter 61 = .ok (.ireturn, 1) := by decide +kernel
theorem dX3_byLetter_62 : decode cX3_byLetter 62 = .ok (.bipush (-4), 2) := by decide +kernel
theorem dX3_byLetter_64 : decode cX3_byLetter 64 = .ok (.ireturn, 1) := by decide +kernel
theorem dX3_isUnder_0 : decode cX3_isUnder 0 = .ok (.iload_n 0, 1) := by decide +kernel
theorem dX3_isUnder_1 : decode cX3_isUnder 1 = .ok (.istore_n 2, 1) := by decide +kernel
theorem dX3_isUnder_2 : decode cX3_isUnder 2 = .ok (.iconst 0, 1) := by decide +kernel
theorem dX3_isUnder_3 : decode cX3_isUnder 3 = .ok (.istore_n 3, 1) := by decide +kernel
theorem dX3_isUnder_4 : decode cX3_isUnder 4 = .ok (.iload_n 3, 1) := by decide +kernel
theorem dX3_isUnder_5 : decode cX3_isUnder 5 = .ok (.getstatic 11, 3) := by decide +kernel
theorem dX3_isUnder_8 : decode cX3_isUnder 8 = .ok (.arraylength, 1) := by decide +kernel
theorem dX3_isUnder_9 : decode cX3_isUnder 9 = .ok (.if_icmp .ge 34, 3) := by decide +kernel
theorem dX3_isUnder_12 : decode cX3_isUnder 12 = .ok (.iload_n 2, 1) := by decide +kernel
theorem dX3_isUnder_13 : decode cX3_isUnder 13 = .ok (.ifCond .lt 30, 3) := by decide +kernel
theorem dX3_isUnder_16 : decode cX3_isUnder 16 = .ok (.iload_n 2, 1) := by decide +kernel
theorem dX3_isUnder_17 : decode cX3_isUnder 17 = .ok (.getstatic 11, 3) := by decide +kernel
theorem dX3_isUnder_20 : decode cX3_isUnder 20 = .ok (.arraylength, 1) := by decide +kernel
theorem dX3_isUnder_21 : decode cX3_isUnder 21 = .ok (.if_icmp .ge 22, 3) := by decide +kernel
theorem dX3_isUnder_24 : decode cX3_isUnder 24 = .ok (.iload_n 2, 1) := by decide +kernel
theorem dX3_isUnder_25 : decode cX3_isUnder 25 = .ok (.iload_n 1, 1) := by decide +kernel
theorem dX3_isUnder_26 : decode cX3_isUnder 26 = .ok (.if_icmp .ne 5, 3) := by decide +kernel
theorem dX3_isUnder_29 : decode cX3_isUnder 29 = .ok (.iconst 1, 1) := by decide +kernel
theorem dX3_isUnder_30 : decode cX3_isUnder 30 = .ok (.ireturn, 1) := by decide +kernel
theorem dX3_isUnder_31 : decode cX3_isUnder 31 = .ok (.getstatic 11, 3) := by decide +kernel
theorem dX3_isUnder_34 : decode cX3_isUnder 34 = .ok (.iload_n 2, 1) := by decide +kernel
theorem dX3_isUnder_35 : decode cX3_isUnder 35 = .ok (.iaload, 1) := by decide +kernel
theorem dX3_isUnder_36 : decode cX3_isUnder 36 = .ok (.istore_n 2, 1) := by decide +kernel
theorem dX3_isUnder_37 : decode cX3_isUnder 37 = .ok (.iinc 3 1, 3) := by decide +kernel
theorem dX3_isUnder_40 : decode cX3_isUnder 40 = .ok (.goto (-36), 3) := by decide +kernel
theorem dX3_isUnder_43 : decode cX3_isUnder 43 = .ok (.iconst 0, 1) := by decide +kernel
theorem dX3_isUnder_44 : decode cX3_isUnder 44 = .ok (.ireturn, 1) := by decide +kernel
theorem dX3_effort_0 : decode cX3_effort 0 = .ok (.iload_n 0, 1) := by decide +kernel
theorem dX3_effort_1 : decode cX3_effort 1 = .ok (.iconst 1, 1) := by decide +kernel
theorem dX3_effort_2 : decode cX3_effort 2 = .ok (.if_icmp .lt 8, 3) := by decide +kernel
theorem dX3_effort_5 : decode cX3_effort 5 = .ok (.iload_n 0, 1) := by decide +kernel
theorem dX3_effort_6 : decode cX3_effort 6 = .ok (.iconst 5, 1) := by decide +kernel
theorem dX3_effort_7 : decode cX3_effort 7 = .ok (.if_icmp .le 5, 3) := by decide +kernel
theorem dX3_effort_10 : decode cX3_effort 10 = .ok (.iconst 0, 1) := by decide +kernel
theorem dX3_effort_11 : decode cX3_effort 11 = .ok (.ireturn, 1) := by decide +kernel
theorem dX3_effort_12 : decode cX3_effort 12 = .ok (.getstatic 15, 3) := by decide +kernel
theorem dX3_effort_15 : decode cX3_effort 15 = .ok (.iload_n 0, 1) := by decide +kernel
theorem dX3_effort_16 : decode cX3_effort 16 = .ok (.iaload, 1) := by decide +kernel
theorem dX3_effort_17 : decode cX3_effort 17 = .ok (.istore_n 2, 1) := by decide +kernel
theorem dX3_effort_18 : decode cX3_effort 18 = .ok (.iload_n 0, 1) := by decide +kernel
theorem dX3_effort_19 : decode cX3_effort 19 = .ok (.iconst 5, 1) := by decide +kernel
theorem dX3_effort_20 : decode cX3_effort 20 = .ok (.if_icmp .ne 13, 3) := by decide +kernel
theorem dX3_effort_23 : decode cX3_effort 23 = .ok (.iconst 1, 1) := by decide +kernel
theorem dX3_effort_24 : decode cX3_effort 24 = .ok (.iload_n 2, 1) := by decide +kernel
theorem dX3_effort_25 : decode cX3_effort 25 = .ok (.iload_n 1, 1) := by decide +kernel
theorem dX3_effort_26 : decode cX3_effort 26 = .ok (.isub, 1) := by decide +kernel
theorem dX3_effort_27 : decode cX3_effort 27 = .ok (.invokestatic 18, 3) := by decide +kernel
theorem dX3_effort_30 : decode cX3_effort 30 = .ok (.goto 4, 3) := by decide +kernel
theorem dX3_effort_33 : decode cX3_effort 33 = .ok (.iload_n 2, 1) := by decide +kernel
theorem dX3_effort_34 : decode cX3_effort 34 = .ok (.ireturn, 1) := by decide +kernel
theorem dX3_wears_0 : decode cX3_wears 0 = .ok (.iload_n 0, 1) := by decide +kernel
theorem dX3_wears_1 : decode cX3_wears 1 = .ok (.iconst 1, 1) := by decide +kernel
theorem dX3_wears_2 : decode cX3_wears 2 = .ok (.if_icmp .lt 8, 3) := by decide +kernel
theorem dX3_wears_5 : decode cX3_wears 5 = .ok (.iload_n 0, 1) := by decide +kernel
theorem dX3_wears_6 : decode cX3_wears 6 = .ok (.iconst 5, 1) := by decide +kernel
theorem dX3_wears_7 : decode cX3_wears 7 = .ok (.if_icmp .le 7, 3) := by decide +kernel
theorem dX3_wears_10 : decode cX3_wears 10 = .ok (.iconst 0, 1) := by decide +kernel
theorem dX3_wears_11 : decode cX3_wears 11 = .ok (.goto 8, 3) := by decide +kernel
theorem dX3_wears_14 : decode cX3_wears 14 = .ok (.getstatic 24, 3) := by decide +kernel
theorem dX3_wears_17 : decode cX3_wears 17 = .ok (.iload_n 0, 1) := by decide +kernel
theorem dX3_wears_18 : decode cX3_wears 18 = .ok (.iaload, 1) := by decide +kernel
theorem dX3_wears_19 : decode cX3_wears 19 = .ok (.ireturn, 1) := by decide +kernel
theorem dX3_fitting_0 : decode cX3_fitting 0 = .ok (.iconst 0, 1) := by decide +kernel
theorem dX3_fitting_1 : decode cX3_fitting 1 = .ok (.istore_n 3, 1) := by decide +kernel
theorem dX3_fitting_2 : decode cX3_fitting 2 = .ok (.iconst 1, 1) := by decide +kernel
theorem dX3_fitting_3 : decode cX3_fitting 3 = .ok (.istore 4, 2) := by decide +kernel
theorem dX3_fitting_5 : decode cX3_fitting 5 = .ok (.iload 4, 2) := by decide +kernel
theorem dX3_fitting_7 : decode cX3_fitting 7 = .ok (.iconst 5, 1) := by decide +kernel
theorem dX3_fitting_8 : decode cX3_fitting 8 = .ok (.if_icmp .gt 16, 3) := by decide +kernel
theorem dX3_fitting_11 : decode cX3_fitting 11 = .ok (.iload_n 3, 1) := by decide +kernel
theorem dX3_fitting_12 : decode cX3_fitting 12 = .ok (.iconst 1, 1) := by decide +kernel
theorem dX3_fitting_13 : decode cX3_fitting 13 = .ok (.iload 4, 2) := by decide +kernel
theorem dX3_fitting_15 : decode cX3_fitting 15 = .ok (.ishl, 1) := by decide +kernel
theorem dX3_fitting_16 : decode cX3_fitting 16 = .ok (.ior, 1) := by decide +kernel
theorem dX3_fitting_17 : decode cX3_fitting 17 = .ok (.istore_n 3, 1) := by decide +kernel
theorem dX3_fitting_18 : decode cX3_fitting 18 = .ok (.iinc 4 1, 3) := by decide +kernel
theorem dX3_fitting_21 : decode cX3_fitting 21 = .ok (.goto (-16), 3) := by decide +kernel
theorem dX3_fitting_24 : decode cX3_fitting 24 = .ok (.iconst 0, 1) := by decide +kernel
theorem dX3_fitting_25 : decode cX3_fitting 25 = .ok (.istore 4, 2) := by decide +kernel
theorem dX3_fitting_27 : decode cX3_fitting 27 = .ok (.iload 4, 2) := by decide +kernel
theorem dX3_fitting_29 : decode cX3_fitting 29 = .ok (.iload_n 2, 1) := by decide +kernel
theorem dX3_fitting_30 : decode cX3_fitting 30 = .ok (.if_icmp .ge 61, 3) := by decide +kernel
theorem dX3_fitting_33 : decode cX3_fitting 33 = .ok (.aload_n 0, 1) := by decide +kernel
theorem dX3_fitting_34 : decode cX3_fitting 34 = .ok (.iload_n 1, 1) := by decide +kernel
theorem dX3_fitting_35 : decode cX3_fitting 35 = .ok (.iconst 2, 1) := by decide +kernel
theorem dX3_fitting_36 : decode cX3_fitting 36 = .ok (.iload 4, 2) := by decide +kernel
theorem dX3_fitting_38 : decode cX3_fitting 38 = .ok (.imul, 1) := by decide +kernel
theorem dX3_fitting_39 : decode cX3_fitting 39 = .ok (.iadd, 1) := by decide +kernel
theorem dX3_fitting_40 : decode cX3_fitting 40 = .ok (.invokevirtual 27, 3) := by decide +kernel
theorem dX3_fitting_43 : decode cX3_fitting 43 = .ok (.lstore 5, 2) := by decide +kernel
theorem dX3_fitting_45 : decode cX3_fitting 45 = .ok (.lload 5, 2) := by decide +kernel
theorem dX3_fitting_47 : decode cX3_fitting 47 = .ok (.lconst 0, 1) := by decide +kernel
theorem dX3_fitting_48 : decode cX3_fitting 48 = .ok (.lcmp, 1) := by decide +kernel
theorem dX3_fitting_49 : decode cX3_fitting 49 = .ok (.ifCond .lt 12, 3) := by decide +kernel
theorem dX3_fitting_52 : decode cX3_fitting 52 = .ok (.lload 5, 2) := by decide +kernel
theorem dX3_fitting_54 : decode cX3_fitting 54 = .ok (.ldc2_w 33, 3) := by decide +kernel
theorem dX3_fitting_57 : decode cX3_fitting 57 = .ok (.lcmp, 1) := by decide +kernel
theorem dX3_fitting_58 : decode cX3_fitting 58 = .ok (.ifCond .le 6, 3) := by decide +kernel
theorem dX3_fitting_61 : decode cX3_fitting 61 = .ok (.bipush (-2), 2) := by decide +kernel
theorem dX3_fitting_63 : decode cX3_fitting 63 = .ok (.ireturn, 1) := by decide +kernel
theorem dX3_fitting_64 : decode cX3_fitting 64 = .ok (.iload_n 3, 1) := by decide +kernel
theorem dX3_fitting_65 : decode cX3_fitting 65 = .ok (.lload 5, 2) := by decide +kernel
theorem dX3_fitting_67 : decode cX3_fitting 67 = .ok (.l2i, 1) := by decide +kernel
theorem dX3_fitting_68 : decode cX3_fitting 68 = .ok (.aload_n 0, 1) := by decide +kernel
theorem dX3_fitting_69 : decode cX3_fitting 69 = .ok (.iload_n 1, 1) := by decide +kernel
theorem dX3_fitting_70 : decode cX3_fitting 70 = .ok (.iconst 2, 1) := by decide +kernel
theorem dX3_fitting_71 : decode cX3_fitting 71 = .ok (.iload 4, 2) := by decide +kernel
theorem dX3_fitting_73 : decode cX3_fitting 73 = .ok (.imul, 1) := by decide +kernel
theorem dX3_fitting_74 : decode cX3_fitting 74 = .ok (.iadd, 1) := by decide +kernel
theorem dX3_fitting_75 : decode cX3_fitting 75 = .ok (.iconst 1, 1) := by decide +kernel
theorem dX3_fitting_76 : decode cX3_fitting 76 = .ok (.iadd, 1) := by decide +kernel
theorem dX3_fitting_77 : decode cX3_fitting 77 = .ok (.invokevirtual 27, 3) := by decide +kernel
theorem dX3_fitting_80 : decode cX3_fitting 80 = .ok (.invokestatic 35, 3) := by decide +kernel
theorem dX3_fitting_83 : decode cX3_fitting 83 = .ok (.iand, 1) := by decide +kernel
theorem dX3_fitting_84 : decode cX3_fitting 84 = .ok (.istore_n 3, 1) := by decide +kernel
theorem dX3_fitting_85 : decode cX3_fitting 85 = .ok (.iinc 4 1, 3) := by decide +kernel
theorem dX3_fitting_88 : decode cX3_fitting 88 = .ok (.goto (-61), 3) := by decide +kernel
theorem dX3_fitting_91 : decode cX3_fitting 91 = .ok (.iload_n 3, 1) := by decide +kernel
theorem dX3_fitting_92 : decode cX3_fitting 92 = .ok (.ireturn, 1) := by decide +kernel
theorem dX3_taking_0 : decode cX3_taking 0 = .ok (.iconst 0, 1) := by decide +kernel
theorem dX3_taking_1 : decode cX3_taking 1 = .ok (.istore_n 3, 1) := by decide +kernel
theorem dX3_taking_2 : decode cX3_taking 2 = .ok (.iconst 1, 1) := by decide +kernel
theorem dX3_taking_3 : decode cX3_taking 3 = .ok (.istore 4, 2) := by decide +kernel
theorem dX3_taking_5 : decode cX3_taking 5 = .ok (.iload 4, 2) := by decide +kernel
theorem dX3_taking_7 : decode cX3_taking 7 = .ok (.iconst 5, 1) := by decide +kernel
theorem dX3_taking_8 : decode cX3_taking 8 = .ok (.if_icmp .gt 28, 3) := by decide +kernel
theorem dX3_taking_11 : decode cX3_taking 11 = .ok (.iload 4, 2) := by decide +kernel
theorem dX3_taking_13 : decode cX3_taking 13 = .ok (.iload_n 0, 1) := by decide +kernel
theorem dX3_taking_14 : decode cX3_taking 14 = .ok (.invokestatic 39, 3) := by decide +kernel
theorem dX3_taking_17 : decode cX3_taking 17 = .ok (.i2l, 1) := by decide +kernel
theorem dX3_taking_18 : decode cX3_taking 18 = .ok (.lload_n 1, 1) := by decide +kernel
theorem dX3_taking_19 : decode cX3_taking 19 = .ok (.lcmp, 1) := by decide +kernel
theorem dX3_taking_20 : decode cX3_taking 20 = .ok (.ifCond .ne 10, 3) := by decide +kernel
theorem dX3_taking_23 : decode cX3_taking 23 = .ok (.iload_n 3, 1) := by decide +kernel
theorem dX3_taking_24 : decode cX3_taking 24 = .ok (.iconst 1, 1) := by decide +kernel
theorem dX3_taking_25 : decode cX3_taking 25 = .ok (.iload 4, 2) := by decide +kernel
theorem dX3_taking_27 : decode cX3_taking 27 = .ok (.ishl, 1) := by decide +kernel
theorem dX3_taking_28 : decode cX3_taking 28 = .ok (.ior, 1) := by decide +kernel
theorem dX3_taking_29 : decode cX3_taking 29 = .ok (.istore_n 3, 1) := by decide +kernel
theorem dX3_taking_30 : decode cX3_taking 30 = .ok (.iinc 4 1, 3) := by decide +kernel
theorem dX3_taking_33 : decode cX3_taking 33 = .ok (.goto (-28), 3) := by decide +kernel
theorem dX3_taking_36 : decode cX3_taking 36 = .ok (.iload_n 3, 1) := by decide +kernel
theorem dX3_taking_37 : decode cX3_taking 37 = .ok (.ireturn, 1) := by decide +kernel
theorem dX3_bestTry_0 : decode cX3_bestTry 0 = .ok (.iload_n 0, 1) := by decide +kernel
theorem dX3_bestTry_1 : decode cX3_bestTry 1 = .ok (.ifCond .ne 6, 3) := by decide +kernel
theorem dX3_bestTry_4 : decode cX3_bestTry 4 = .ok (.bipush (-4), 2) := by decide +kernel
theorem dX3_bestTry_6 : decode cX3_bestTry 6 = .ok (.ireturn, 1) := by decide +kernel
theorem dX3_bestTry_7 : decode cX3_bestTry 7 = .ok (.iconst 0, 1) := by decide +kernel
theorem dX3_bestTry_8 : decode cX3_bestTry 8 = .ok (.istore_n 1, 1) := by decide +kernel
theorem dX3_bestTry_9 : decode cX3_bestTry 9 = .ok (.iconst 1, 1) := by decide +kernel
theorem dX3_bestTry_10 : decode cX3_bestTry 10 = .ok (.istore_n 2, 1) := by decide +kernel
theorem dX3_bestTry_11 : decode cX3_bestTry 11 = .ok (.iload_n 2, 1) := by decide +kernel
theorem dX3_bestTry_12 : decode cX3_bestTry 12 = .ok (.bipush 9, 2) := by decide +kernel
theorem dX3_bestTry_14 : decode cX3_bestTry 14 = .ok (.if_icmp .gt 24, 3) := by decide +kernel
theorem dX3_bestTry_17 : decode cX3_bestTry 17 = .ok (.iload_n 0, 1) := by decide +kernel
theorem dX3_bestTry_18 : decode cX3_bestTry 18 = .ok (.iload_n 2, 1) := by decide +kernel
theorem dX3_bestTry_19 : decode cX3_bestTry 19 = .ok (.invokestatic 42, 3) := by decide +kernel
theorem dX3_bestTry_22 : decode cX3_bestTry 22 = .ok (.iload_n 0, 1) := by decide +kernel
theorem dX3_bestTry_23 : decode cX3_bestTry 23 = .ok (.iload_n 1, 1) := by decide +kernel
theorem dX3_bestTry_24 : decode cX3_bestTry 24 = .ok (.invokestatic 42, 3) := by decide +kernel
theorem dX3_bestTry_27 : decode cX3_bestTry 27 = .ok (.if_icmp .ge 5, 3) := by decide +kernel
theorem dX3_bestTry_30 : decode cX3_bestTry 30 = .ok (.iload_n 2, 1) := by decide +kernel
theorem dX3_bestTry_31 : decode cX3_bestTry 31 = .ok (.istore_n 1, 1) := by decide +kernel
theorem dX3_bestTry_32 : decode cX3_bestTry 32 = .ok (.iinc 2 1, 3) := by decide +kernel
theorem dX3_bestTry_35 : decode cX3_bestTry 35 = .ok (.goto (-24), 3) := by decide +kernel
theorem dX3_bestTry_38 : decode cX3_bestTry 38 = .ok (.iload_n 1, 1) := by decide +kernel
theorem dX3_bestTry_39 : decode cX3_bestTry 39 = .ok (.ireturn, 1) := by decide +kernel
theorem dX3_greatestPart_0 : decode cX3_greatestPart 0 = .ok (.iconst 0, 1) := by decide +kernel
theorem dX3_greatestPart_1 : decode cX3_greatestPart 1 = .ok (.istore_n 2, 1) := by decide +kernel
theorem dX3_greatestPart_2 : decode cX3_greatestPart 2 = .ok (.iconst 1, 1) := by decide +kernel
theorem dX3_greatestPart_3 : decode cX3_greatestPart 3 = .ok (.istore_n 3, 1) := by decide +kernel
theorem dX3_greatestPart_4 : decode cX3_greatestPart 4 = .ok (.iload_n 3, 1) := by decide +kernel
theorem dX3_greatestPart_5 : decode cX3_greatestPart 5 = .ok (.iconst 5, 1) := by decide +kernel
theorem dX3_greatestPart_6 : decode cX3_greatestPart 6 = .ok (.if_icmp .gt 33, 3) := by decide +kernel
theorem dX3_greatestPart_9 : decode cX3_greatestPart 9 = .ok (.iload_n 0, 1) := by decide +kernel
theorem dX3_greatestPart_10 : decode cX3_greatestPart 10 = .ok (.iload_n 1, 1) := by decide +kernel
theorem dX3_greatestPart_11 : decode cX3_greatestPart 11 = .ok (.iload_n 3, 1) := by decide +kernel
theorem dX3_greatestPart_12 : decode cX3_greatestPart 12 = .ok (.iload_n 1, 1) := by decide +kernel
theorem dX3_greatestPart_13 : decode cX3_greatestPart 13 = .ok (.invokestatic 39, 3) := by decide +kernel
theorem dX3_greatestPart_16 : decode cX3_greatestPart 16 = .ok (.i2l, 1) := by decide +kernel
theorem dX3_greatestPart_17 : decode cX3_greatestPart 17 = .ok (.invokestatic 35, 3) := by decide +kernel
theorem dX3_greatestPart_20 : decode cX3_greatestPart 20 = .ok (.iand, 1) := by decide +kernel
theorem dX3_greatestPart_21 : decode cX3_greatestPart 21 = .ok (.istore 4, 2) := by decide +kernel
theorem dX3_greatestPart_23 : decode cX3_greatestPart 23 = .ok (.iload_n 2, 1) := by decide +kernel
theorem dX3_greatestPart_24 : decode cX3_greatestPart 24 = .ok (.iload 4, 2) := by decide +kernel
theorem dX3_greatestPart_26 : decode cX3_greatestPart 26 = .ok (.invokestatic 45, 3) := by decide +kernel
theorem dX3_greatestPart_29 : decode cX3_greatestPart 29 = .ok (.invokestatic 18, 3) := by decide +kernel
theorem dX3_greatestPart_32 : decode cX3_greatestPart 32 = .ok (.istore_n 2, 1) := by decide +kernel
theorem dX3_greatestPart_33 : decode cX3_greatestPart 33 = .ok (.iinc 3 1, 3) := by decide +kernel
theorem dX3_greatestPart_36 : decode cX3_greatestPart 36 = .ok (.goto (-32), 3) := by decide +kernel
theorem dX3_greatestPart_39 : decode cX3_greatestPart 39 = .ok (.iload_n 2, 1) := by decide +kernel
theorem dX3_greatestPart_40 : decode cX3_greatestPart 40 = .ok (.ireturn, 1) := by decide +kernel
