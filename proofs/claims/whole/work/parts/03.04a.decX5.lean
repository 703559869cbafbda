theorem dX5_init_0 : decode cX5_init 0 = .ok (.aload_n 0, 1) := by decide +kernel
theorem dX5_init_1 : decode cX5_init 1 = .ok (.invokespecial 3, 3) := by decide +kernel
theorem dX5_init_4 : decode cX5_init 4 = .ok (.aload_n 0, 1) := by decide +kernel
theorem dX5_init_5 : decode cX5_init 5 = .ok (.new 9, 3) := by decide +kernel
theorem dX5_init_8 : decode cX5_init 8 = .ok (.dup, 1) := by decide +kernel
theorem dX5_init_9 : decode cX5_init 9 = .ok (.invokespecial 11, 3) := by decide +kernel
theorem dX5_init_12 : decode cX5_init 12 = .ok (.putfield 12, 3) := by decide +kernel
theorem dX5_init_15 : decode cX5_init 15 = .ok (.return_, 1) := by decide +kernel
theorem dX5_readWhole_0 : decode cX5_readWhole 0 = .ok (.aload_n 0, 1) := by decide +kernel
theorem dX5_readWhole_1 : decode cX5_readWhole 1 = .ok (.getfield 12, 3) := by decide +kernel
theorem dX5_readWhole_4 : decode cX5_readWhole 4 = .ok (.invokevirtual 18, 3) := by decide +kernel
theorem dX5_readWhole_7 : decode cX5_readWhole 7 = .ok (.aload_n 0, 1) := by decide +kernel
theorem dX5_readWhole_8 : decode cX5_readWhole 8 = .ok (.iconst 0, 1) := by decide +kernel
theorem dX5_readWhole_9 : decode cX5_readWhole 9 = .ok (.putfield 21, 3) := by decide +kernel
theorem dX5_readWhole_12 : decode cX5_readWhole 12 = .ok (.aload_n 0, 1) := by decide +kernel
theorem dX5_readWhole_13 : decode cX5_readWhole 13 = .ok (.aload_n 1, 1) := by decide +kernel
theorem dX5_readWhole_14 : decode cX5_readWhole 14 = .ok (.bipush 120, 2) := by decide +kernel
theorem dX5_readWhole_16 : decode cX5_readWhole 16 = .ok (.invokevirtual 25, 3) := by decide +kernel
theorem dX5_readWhole_19 : decode cX5_readWhole 19 = .ok (.ifCond .eq 62, 3) := by decide +kernel
theorem dX5_readWhole_22 : decode cX5_readWhole 22 = .ok (.aload_n 0, 1) := by decide +kernel
theorem dX5_readWhole_23 : decode cX5_readWhole 23 = .ok (.aload_n 1, 1) := by decide +kernel
theorem dX5_readWhole_24 : decode cX5_readWhole 24 = .ok (.invokevirtual 29, 3) := by decide +kernel
theorem dX5_readWhole_27 : decode cX5_readWhole 27 = .ok (.ifCond .eq 54, 3) := by decide +kernel
theorem dX5_readWhole_30 : decode cX5_readWhole 30 = .ok (.aload_n 0, 1) := by decide +kernel
theorem dX5_readWhole_31 : decode cX5_readWhole 31 = .ok (.aload_n 1, 1) := by decide +kernel
theorem dX5_readWhole_32 : decode cX5_readWhole 32 = .ok (.bipush 59, 2) := by decide +kernel
theorem dX5_readWhole_34 : decode cX5_readWhole 34 = .ok (.invokevirtual 25, 3) := by decide +kernel
theorem dX5_readWhole_37 : decode cX5_readWhole 37 = .ok (.ifCond .eq 44, 3) := by decide +kernel
theorem dX5_readWhole_40 : decode cX5_readWhole 40 = .ok (.aload_n 0, 1) := by decide +kernel
theorem dX5_readWhole_41 : decode cX5_readWhole 41 = .ok (.aload_n 1, 1) := by decide +kernel
theorem dX5_readWhole_42 : decode cX5_readWhole 42 = .ok (.invokevirtual 33, 3) := by decide +kernel
theorem dX5_readWhole_45 : decode cX5_readWhole 45 = .ok (.ifCond .eq 36, 3) := by decide +kernel
theorem dX5_readWhole_48 : decode cX5_readWhole 48 = .ok (.aload_n 0, 1) := by decide +kernel
theorem dX5_readWhole_49 : decode cX5_readWhole 49 = .ok (.aload_n 1, 1) := by decide +kernel
theorem dX5_readWhole_50 : decode cX5_readWhole 50 = .ok (.bipush 59, 2) := by decide +kernel
theorem dX5_readWhole_52 : decode cX5_readWhole 52 = .ok (.invokevirtual 25, 3) := by decide +kernel
theorem dX5_readWhole_55 : decode cX5_readWhole 55 = .ok (.ifCond .eq 26, 3) := by decide +kernel
theorem dX5_readWhole_58 : decode cX5_readWhole 58 = .ok (.aload_n 0, 1) := by decide +kernel
theorem dX5_readWhole_59 : decode cX5_readWhole 59 = .ok (.aload_n 1, 1) := by decide +kernel
theorem dX5_readWhole_60 : decode cX5_readWhole 60 = .ok (.invokevirtual 36, 3) := by decide +kernel
theorem dX5_readWhole_63 : decode cX5_readWhole 63 = .ok (.ifCond .eq 18, 3) := by decide +kernel
theorem dX5_readWhole_66 : decode cX5_readWhole 66 = .ok (.aload_n 0, 1) := by decide +kernel
theorem dX5_readWhole_67 : decode cX5_readWhole 67 = .ok (.getfield 21, 3) := by decide +kernel
theorem dX5_readWhole_70 : decode cX5_readWhole 70 = .ok (.aload_n 1, 1) := by decide +kernel
theorem dX5_readWhole_71 : decode cX5_readWhole 71 = .ok (.getfield 39, 3) := by decide +kernel
theorem dX5_readWhole_74 : decode cX5_readWhole 74 = .ok (.if_icmp .ne 7, 3) := by decide +kernel
theorem dX5_readWhole_77 : decode cX5_readWhole 77 = .ok (.iconst 1, 1) := by decide +kernel
theorem dX5_readWhole_78 : decode cX5_readWhole 78 = .ok (.goto 4, 3) := by decide +kernel
theorem dX5_readWhole_81 : decode cX5_readWhole 81 = .ok (.iconst 0, 1) := by decide +kernel
theorem dX5_readWhole_82 : decode cX5_readWhole 82 = .ok (.ireturn, 1) := by decide +kernel
theorem dX5_readSign_0 : decode cX5_readSign 0 = .ok (.aload_n 1, 1) := by decide +kernel
theorem dX5_readSign_1 : decode cX5_readSign 1 = .ok (.aload_n 0, 1) := by decide +kernel
theorem dX5_readSign_2 : decode cX5_readSign 2 = .ok (.getfield 21, 3) := by decide +kernel
theorem dX5_readSign_5 : decode cX5_readSign 5 = .ok (.invokevirtual 44, 3) := by decide +kernel
theorem dX5_readSign_8 : decode cX5_readSign 8 = .ok (.iload_n 2, 1) := by decide +kernel
theorem dX5_readSign_9 : decode cX5_readSign 9 = .ok (.if_icmp .eq 5, 3) := by decide +kernel
theorem dX5_readSign_12 : decode cX5_readSign 12 = .ok (.iconst 0, 1) := by decide +kernel
theorem dX5_readSign_13 : decode cX5_readSign 13 = .ok (.ireturn, 1) := by decide +kernel
theorem dX5_readSign_14 : decode cX5_readSign 14 = .ok (.aload_n 0, 1) := by decide +kernel
theorem dX5_readSign_15 : decode cX5_readSign 15 = .ok (.dup, 1) := by decide +kernel
theorem dX5_readSign_16 : decode cX5_readSign 16 = .ok (.getfield 21, 3) := by decide +kernel
theorem dX5_readSign_19 : decode cX5_readSign 19 = .ok (.iconst 1, 1) := by decide +kernel
theorem dX5_readSign_20 : decode cX5_readSign 20 = .ok (.iadd, 1) := by decide +kernel
theorem dX5_readSign_21 : decode cX5_readSign 21 = .ok (.putfield 21, 3) := by decide +kernel
theorem dX5_readSign_24 : decode cX5_readSign 24 = .ok (.iconst 1, 1) := by decide +kernel
theorem dX5_readSign_25 : decode cX5_readSign 25 = .ok (.ireturn, 1) := by decide +kernel
theorem dX5_readPictures_0 : decode cX5_readPictures 0 = .ok (.iconst 0, 1) := by decide +kernel
theorem dX5_readPictures_1 : decode cX5_readPictures 1 = .ok (.istore_n 2, 1) := by decide +kernel
theorem dX5_readPictures_2 : decode cX5_readPictures 2 = .ok (.iload_n 2, 1) := by decide +kernel
theorem dX5_readPictures_3 : decode cX5_readPictures 3 = .ok (.bipush 8, 2) := by decide +kernel
theorem dX5_readPictures_5 : decode cX5_readPictures 5 = .ok (.if_icmp .ge 68, 3) := by decide +kernel
theorem dX5_readPictures_8 : decode cX5_readPictures 8 = .ok (.aload_n 0, 1) := by decide +kernel
theorem dX5_readPictures_9 : decode cX5_readPictures 9 = .ok (.aload_n 1, 1) := by decide +kernel
theorem dX5_readPictures_10 : decode cX5_readPictures 10 = .ok (.invokevirtual 48, 3) := by decide +kernel
theorem dX5_readPictures_13 : decode cX5_readPictures 13 = .ok (.ifCond .ne 5, 3) := by decide +kernel
theorem dX5_readPictures_16 : decode cX5_readPictures 16 = .ok (.iconst 0, 1) := by decide +kernel
theorem dX5_readPictures_17 : decode cX5_readPictures 17 = .ok (.ireturn, 1) := by decide +kernel
theorem dX5_readPictures_18 : decode cX5_readPictures 18 = .ok (.aload_n 0, 1) := by decide +kernel
theorem dX5_readPictures_19 : decode cX5_readPictures 19 = .ok (.getfield 12, 3) := by decide +kernel
theorem dX5_readPictures_22 : decode cX5_readPictures 22 = .ok (.getfield 51, 3) := by decide +kernel
theorem dX5_readPictures_25 : decode cX5_readPictures 25 = .ok (.bipush 8, 2) := by decide +kernel
theorem dX5_readPictures_27 : decode cX5_readPictures 27 = .ok (.if_icmp .ne 7, 3) := by decide +kernel
theorem dX5_readPictures_30 : decode cX5_readPictures 30 = .ok (.iconst 1, 1) := by decide +kernel
theorem dX5_readPictures_31 : decode cX5_readPictures 31 = .ok (.goto 4, 3) := by decide +kernel
theorem dX5_readPictures_34 : decode cX5_readPictures 34 = .ok (.iconst 0, 1) := by decide +kernel
theorem dX5_readPictures_35 : decode cX5_readPictures 35 = .ok (.istore_n 3, 1) := by decide +kernel
theorem dX5_readPictures_36 : decode cX5_readPictures 36 = .ok (.iload_n 3, 1) := by decide +kernel
theorem dX5_readPictures_37 : decode cX5_readPictures 37 = .ok (.ifCond .ne 13, 3) := by decide +kernel
theorem dX5_readPictures_40 : decode cX5_readPictures 40 = .ok (.aload_n 0, 1) := by decide +kernel
theorem dX5_readPictures_41 : decode cX5_readPictures 41 = .ok (.aload_n 1, 1) := by decide +kernel
theorem dX5_readPictures_42 : decode cX5_readPictures 42 = .ok (.bipush 44, 2) := by decide +kernel
theorem dX5_readPictures_44 : decode cX5_readPictures 44 = .ok (.invokevirtual 25, 3) := by decide +kernel
theorem dX5_readPictures_47 : decode cX5_readPictures 47 = .ok (.ifCond .ne 20, 3) := by decide +kernel
theorem dX5_readPictures_50 : decode cX5_readPictures 50 = .ok (.aload_n 0, 1) := by decide +kernel
theorem dX5_readPictures_51 : decode cX5_readPictures 51 = .ok (.getfield 12, 3) := by decide +kernel
theorem dX5_readPictures_54 : decode cX5_readPictures 54 = .ok (.getfield 51, 3) := by decide +kernel
theorem dX5_readPictures_57 : decode cX5_readPictures 57 = .ok (.iconst 3, 1) := by decide +kernel
theorem dX5_readPictures_58 : decode cX5_readPictures 58 = .ok (.if_icmp .lt 7, 3) := by decide +kernel
theorem dX5_readPictures_61 : decode cX5_readPictures 61 = .ok (.iconst 1, 1) := by decide +kernel
theorem dX5_readPictures_62 : decode cX5_readPictures 62 = .ok (.goto 4, 3) := by decide +kernel
theorem dX5_readPictures_65 : decode cX5_readPictures 65 = .ok (.iconst 0, 1) := by decide +kernel
theorem dX5_readPictures_66 : decode cX5_readPictures 66 = .ok (.ireturn, 1) := by decide +kernel
theorem dX5_readPictures_67 : decode cX5_readPictures 67 = .ok (.iinc 2 1, 3) := by decide +kernel
theorem dX5_readPictures_70 : decode cX5_readPictures 70 = .ok (.goto (-68), 3) := by decide +kernel
theorem dX5_readPictures_73 : decode cX5_readPictures 73 = .ok (.iconst 0, 1) := by decide +kernel
theorem dX5_readPictures_74 : decode cX5_readPictures 74 = .ok (.ireturn, 1) := by decide +kernel
theorem dX5_readPicture_0 : decode cX5_readPicture 0 = .ok (.aload_n 1, 1) := by decide +kernel
theorem dX5_readPicture_1 : decode cX5_readPicture 1 = .ok (.aload_n 0, 1) := by decide +kernel
theorem dX5_readPicture_2 : decode cX5_readPicture 2 = .ok (.getfield 21, 3) := by decide +kernel
theorem dX5_readPicture_5 : decode cX5_readPicture 5 = .ok (.invokevirtual 44, 3) := by decide +kernel
theorem dX5_readPicture_8 : decode cX5_readPicture 8 = .ok (.invokestatic 54, 3) := by decide +kernel
theorem dX5_readPicture_11 : decode cX5_readPicture 11 = .ok (.istore_n 2, 1) := by decide +kernel
theorem dX5_readPicture_12 : decode cX5_readPicture 12 = .ok (.iload_n 2, 1) := by decide +kernel
theorem dX5_readPicture_13 : decode cX5_readPicture 13 = .ok (.ifCond .ge 5, 3) := by decide +kernel
theorem dX5_readPicture_16 : decode cX5_readPicture 16 = .ok (.iconst 0, 1) := by decide +kernel
theorem dX5_readPicture_17 : decode cX5_readPicture 17 = .ok (.ireturn, 1) := by decide +kernel
theorem dX5_readPicture_18 : decode cX5_readPicture 18 = .ok (.aload_n 0, 1) := by decide +kernel
theorem dX5_readPicture_19 : decode cX5_readPicture 19 = .ok (.dup, 1) := by decide +kernel
theorem dX5_readPicture_20 : decode cX5_readPicture 20 = .ok (.getfield 21, 3) := by decide +kernel
theorem dX5_readPicture_23 : decode cX5_readPicture 23 = .ok (.iconst 1, 1) := by decide +kernel
theorem dX5_readPicture_24 : decode cX5_readPicture 24 = .ok (.iadd, 1) := by decide +kernel
theorem dX5_readPicture_25 : decode cX5_readPicture 25 = .ok (.putfield 21, 3) := by decide +kernel
theorem dX5_readPicture_28 : decode cX5_readPicture 28 = .ok (.aload_n 0, 1) := by decide +kernel
theorem dX5_readPicture_29 : decode cX5_readPicture 29 = .ok (.aload_n 1, 1) := by decide +kernel
theorem dX5_readPicture_30 : decode cX5_readPicture 30 = .ok (.invokevirtual 59, 3) := by decide +kernel
theorem dX5_readPicture_33 : decode cX5_readPicture 33 = .ok (.istore_n 3, 1) := by decide +kernel
theorem dX5_readPicture_34 : decode cX5_readPicture 34 = .ok (.iload_n 3, 1) := by decide +kernel
theorem dX5_readPicture_35 : decode cX5_readPicture 35 = .ok (.ifCond .ge 5, 3) := by decide +kernel
theorem dX5_readPicture_38 : decode cX5_readPicture 38 = .ok (.iconst 0, 1) := by decide +kernel
theorem dX5_readPicture_39 : decode cX5_readPicture 39 = .ok (.ireturn, 1) := by decide +kernel
theorem dX5_readPicture_40 : decode cX5_readPicture 40 = .ok (.aload_n 0, 1) := by decide +kernel
theorem dX5_readPicture_41 : decode cX5_readPicture 41 = .ok (.dup, 1) := by decide +kernel
theorem dX5_readPicture_42 : decode cX5_readPicture 42 = .ok (.getfield 21, 3) := by decide +kernel
theorem dX5_readPicture_45 : decode cX5_readPicture 45 = .ok (.iconst 1, 1) := by decide +kernel
theorem dX5_readPicture_46 : decode cX5_readPicture 46 = .ok (.iadd, 1) := by decide +kernel
theorem dX5_readPicture_47 : decode cX5_readPicture 47 = .ok (.putfield 21, 3) := by decide +kernel
theorem dX5_readPicture_50 : decode cX5_readPicture 50 = .ok (.aload_n 0, 1) := by decide +kernel
theorem dX5_readPicture_51 : decode cX5_readPicture 51 = .ok (.aload_n 1, 1) := by decide +kernel
theorem dX5_readPicture_52 : decode cX5_readPicture 52 = .ok (.invokevirtual 59, 3) := by decide +kernel
theorem dX5_readPicture_55 : decode cX5_readPicture 55 = .ok (.istore 4, 2) := by decide +kernel
theorem dX5_readPicture_57 : decode cX5_readPicture 57 = .ok (.iload 4, 2) := by decide +kernel
theorem dX5_readPicture_59 : decode cX5_readPicture 59 = .ok (.iconst 1, 1) := by decide +kernel
theorem dX5_readPicture_60 : decode cX5_readPicture 60 = .ok (.if_icmp .ge 5, 3) := by decide +kernel
theorem dX5_readPicture_63 : decode cX5_readPicture 63 = .ok (.iconst 0, 1) := by decide +kernel
theorem dX5_readPicture_64 : decode cX5_readPicture 64 = .ok (.ireturn, 1) := by decide +kernel
theorem dX5_readPicture_65 : decode cX5_readPicture 65 = .ok (.aload_n 0, 1) := by decide +kernel
theorem dX5_readPicture_66 : decode cX5_readPicture 66 = .ok (.dup, 1) := by decide +kernel
theorem dX5_readPicture_67 : decode cX5_readPicture 67 = .ok (.getfield 21, 3) := by decide +kernel
theorem dX5_readPicture_70 : decode cX5_readPicture 70 = .ok (.iconst 1, 1) := by decide +kernel
theorem dX5_readPicture_71 : decode cX5_readPicture 71 = .ok (.iadd, 1) := by decide +kernel
theorem dX5_readPicture_72 : decode cX5_readPicture 72 = .ok (.putfield 21, 3) := by decide +kernel
theorem dX5_readPicture_75 : decode cX5_readPicture 75 = .ok (.aload_n 0, 1) := by decide +kernel
theorem dX5_readPicture_76 : decode cX5_readPicture 76 = .ok (.getfield 12, 3) := by decide +kernel
theorem dX5_readPicture_79 : decode cX5_readPicture 79 = .ok (.iload_n 2, 1) := by decide +kernel
theorem dX5_readPicture_80 : decode cX5_readPicture 80 = .ok (.iload_n 3, 1) := by decide +kernel
theorem dX5_readPicture_81 : decode cX5_readPicture 81 = .ok (.iload 4, 2) := by decide +kernel
theorem dX5_readPicture_83 : decode cX5_readPicture 83 = .ok (.invokevirtual 63, 3) := by decide +kernel
theorem dX5_readPicture_86 : decode cX5_readPicture 86 = .ok (.iconst 1, 1) := by decide +kernel
theorem dX5_readPicture_87 : decode cX5_readPicture 87 = .ok (.ireturn, 1) := by decide +kernel
theorem dX5_readFolds_0 : decode cX5_readFolds 0 = .ok (.aload_n 0, 1) := by decide +kernel
theorem dX5_readFolds_1 : decode cX5_readFolds 1 = .ok (.getfield 12, 3) := by decide +kernel
theorem dX5_readFolds_4 : decode cX5_readFolds 4 = .ok (.invokevirtual 67, 3) := by decide +kernel
theorem dX5_readFolds_7 : decode cX5_readFolds 7 = .ok (.aload_n 0, 1) := by decide +kernel
theorem dX5_readFolds_8 : decode cX5_readFolds 8 = .ok (.getfield 12, 3) := by decide +kernel
theorem dX5_readFolds_11 : decode cX5_readFolds 11 = .ok (.getfield 51, 3) := by decide +kernel
theorem dX5_readFolds_14 : decode cX5_readFolds 14 = .ok (.iconst 3, 1) := by decide +kernel
theorem dX5_readFolds_15 : decode cX5_readFolds 15 = .ok (.isub, 1) := by decide +kernel
theorem dX5_readFolds_16 : decode cX5_readFolds 16 = .ok (.istore_n 2, 1) := by decide +kernel
theorem dX5_readFolds_17 : decode cX5_readFolds 17 = .ok (.iload_n 2, 1) := by decide +kernel
theorem dX5_readFolds_18 : decode cX5_readFolds 18 = .ok (.ifCond .ne 11, 3) := by decide +kernel
theorem dX5_readFolds_21 : decode cX5_readFolds 21 = .ok (.aload_n 0, 1) := by decide +kernel
theorem dX5_readFolds_22 : decode cX5_readFolds 22 = .ok (.aload_n 1, 1) := by decide +kernel
theorem dX5_readFolds_23 : decode cX5_readFolds 23 = .ok (.bipush 45, 2) := by decide +kernel
theorem dX5_readFolds_25 : decode cX5_readFolds 25 = .ok (.invokevirtual 25, 3) := by decide +kernel
theorem dX5_readFolds_28 : decode cX5_readFolds 28 = .ok (.ireturn, 1) := by decide +kernel
theorem dX5_readFolds_29 : decode cX5_readFolds 29 = .ok (.iconst 0, 1) := by decide +kernel
theorem dX5_readFolds_30 : decode cX5_readFolds 30 = .ok (.istore_n 3, 1) := by decide +kernel
theorem dX5_readFolds_31 : decode cX5_readFolds 31 = .ok (.iload_n 3, 1) := by decide +kernel
theorem dX5_readFolds_32 : decode cX5_readFolds 32 = .ok (.iload_n 2, 1) := by decide +kernel
theorem dX5_readFolds_33 : decode cX5_readFolds 33 = .ok (.if_icmp .ge 35, 3) := by decide +kernel
theorem dX5_readFolds_36 : decode cX5_readFolds 36 = .ok (.iload_n 3, 1) := by decide +kernel
theorem dX5_readFolds_37 : decode cX5_readFolds 37 = .ok (.ifCond .le 15, 3) := by decide +kernel
theorem dX5_readFolds_40 : decode cX5_readFolds 40 = .ok (.aload_n 0, 1) := by decide +kernel
theorem dX5_readFolds_41 : decode cX5_readFolds 41 = .ok (.aload_n 1, 1) := by decide +kernel
theorem dX5_readFolds_42 : decode cX5_readFolds 42 = .ok (.bipush 44, 2) := by decide +kernel
theorem dX5_readFolds_44 : decode cX5_readFolds 44 = .ok (.invokevirtual 25, 3) := by decide +kernel
theorem dX5_readFolds_47 : decode cX5_readFolds 47 = .ok (.ifCond .ne 5, 3) := by decide +kernel
theorem dX5_readFolds_50 : decode cX5_readFolds 50 = .ok (.iconst 0, 1) := by decide +kernel
theorem dX5_readFolds_51 : decode cX5_readFolds 51 = .ok (.ireturn, 1) := by decide +kernel
theorem dX5_readFolds_52 : decode cX5_readFolds 52 = .ok (.aload_n 0, 1) := by decide +kernel
theorem dX5_readFolds_53 : decode cX5_readFolds 53 = .ok (.aload_n 1, 1) := by decide +kernel
theorem dX5_readFolds_54 : decode cX5_readFolds 54 = .ok (.invokevirtual 70, 3) := by decide +kernel
theorem dX5_readFolds_57 : decode cX5_readFolds 57 = .ok (.ifCond .ne 5, 3) := by decide +kernel
theorem dX5_readFolds_60 : decode cX5_readFolds 60 = .ok (.iconst 0, 1) := by decide +kernel
theorem dX5_readFolds_61 : decode cX5_readFolds 61 = .ok (.ireturn, 1) := by decide +kernel
theorem dX5_readFolds_62 : decode cX5_readFolds 62 = .ok (.iinc 3 1, 3) := by decide +kernel
theorem dX5_readFolds_65 : decode cX5_readFolds 65 = .ok (.goto (-34), 3) := by decide +kernel
theorem dX5_readFolds_68 : decode cX5_readFolds 68 = .ok (.iconst 1, 1) := by decide +kernel
theorem dX5_readFolds_69 : decode cX5_readFolds 69 = .ok (.ireturn, 1) := by decide +kernel
theorem dX5_readFold_0 : decode cX5_readFold 0 = .ok (.aload_n 0, 1) := by decide +kernel
theorem dX5_readFold_1 : decode cX5_readFold 1 = .ok (.aload_n 1, 1) := by decide +kernel
theorem dX5_readFold_2 : decode cX5_readFold 2 = .ok (.invokevirtual 59, 3) := by decide +kernel
theorem dX5_readFold_5 : decode cX5_readFold 5 = .ok (.istore_n 2, 1) := by decide +kernel
theorem dX5_readFold_6 : decode cX5_readFold 6 = .ok (.aload_n 0, 1) := by decide +kernel
theorem dX5_readFold_7 : decode cX5_readFold 7 = .ok (.getfield 12, 3) := by decide +kernel
theorem dX5_readFold_10 : decode cX5_readFold 10 = .ok (.iload_n 2, 1) := by decide +kernel
theorem dX5_readFold_11 : decode cX5_readFold 11 = .ok (.invokevirtual 73, 3) := by decide +kernel
theorem dX5_readFold_14 : decode cX5_readFold 14 = .ok (.ifCond .ne 5, 3) := by decide +kernel
theorem dX5_readFold_17 : decode cX5_readFold 17 = .ok (.iconst 0, 1) := by decide +kernel
theorem dX5_readFold_18 : decode cX5_readFold 18 = .ok (.ireturn, 1) := by decide +kernel
theorem dX5_readFold_19 : decode cX5_readFold 19 = .ok (.aload_n 0, 1) := by decide +kernel
theorem dX5_readFold_20 : decode cX5_readFold 20 = .ok (.dup, 1) := by decide +kernel
theorem dX5_readFold_21 : decode cX5_readFold 21 = .ok (.getfield 21, 3) := by decide +kernel
theorem dX5_readFold_24 : decode cX5_readFold 24 = .ok (.iconst 1, 1) := by decide +kernel
theorem dX5_readFold_25 : decode cX5_readFold 25 = .ok (.iadd, 1) := by decide +kernel
theorem dX5_readFold_26 : decode cX5_readFold 26 = .ok (.putfield 21, 3) := by decide +kernel
theorem dX5_readFold_29 : decode cX5_readFold 29 = .ok (.aload_n 0, 1) := by decide +kernel
theorem dX5_readFold_30 : decode cX5_readFold 30 = .ok (.aload_n 1, 1) := by decide +kernel
theorem dX5_readFold_31 : decode cX5_readFold 31 = .ok (.invokevirtual 59, 3) := by decide +kernel
theorem dX5_readFold_34 : decode cX5_readFold 34 = .ok (.istore_n 3, 1) := by decide +kernel
theorem dX5_readFold_35 : decode cX5_readFold 35 = .ok (.aload_n 0, 1) := by decide +kernel
theorem dX5_readFold_36 : decode cX5_readFold 36 = .ok (.getfield 12, 3) := by decide +kernel
theorem dX5_readFold_39 : decode cX5_readFold 39 = .ok (.iload_n 2, 1) := by decide +kernel
theorem dX5_readFold_40 : decode cX5_readFold 40 = .ok (.iload_n 3, 1) := by decide +kernel
theorem dX5_readFold_41 : decode cX5_readFold 41 = .ok (.invokevirtual 77, 3) := by decide +kernel
theorem dX5_readFold_44 : decode cX5_readFold 44 = .ok (.ifCond .ne 5, 3) := by decide +kernel
theorem dX5_readFold_47 : decode cX5_readFold 47 = .ok (.iconst 0, 1) := by decide +kernel
theorem dX5_readFold_48 : decode cX5_readFold 48 = .ok (.ireturn, 1) := by decide +kernel
theorem dX5_readFold_49 : decode cX5_readFold 49 = .ok (.aload_n 0, 1) := by decide +kernel
theorem dX5_readFold_50 : decode cX5_readFold 50 = .ok (.dup, 1) := by decide +kernel
theorem dX5_readFold_51 : decode cX5_readFold 51 = .ok (.getfield 21, 3) := by decide +kernel
theorem dX5_readFold_54 : decode cX5_readFold 54 = .ok (.iconst 1, 1) := by decide +kernel
theorem dX5_readFold_55 : decode cX5_readFold 55 = .ok (.iadd, 1) := by decide +kernel
theorem dX5_readFold_56 : decode cX5_readFold 56 = .ok (.putfield 21, 3) := by decide +kernel
theorem dX5_readFold_59 : decode cX5_readFold 59 = .ok (.aload_n 0, 1) := by decide +kernel
theorem dX5_readFold_60 : decode cX5_readFold 60 = .ok (.getfield 12, 3) := by decide +kernel
theorem dX5_readFold_63 : decode cX5_readFold 63 = .ok (.iload_n 2, 1) := by decide +kernel
theorem dX5_readFold_64 : decode cX5_readFold 64 = .ok (.iload_n 3, 1) := by decide +kernel
theorem dX5_readFold_65 : decode cX5_readFold 65 = .ok (.invokevirtual 81, 3) := by decide +kernel
theorem dX5_readFold_68 : decode cX5_readFold 68 = .ok (.iconst 1, 1) := by decide +kernel
theorem dX5_readFold_69 : decode cX5_readFold 69 = .ok (.ireturn, 1) := by decide +kernel
theorem dX5_readShown_0 : decode cX5_readShown 0 = .ok (.aload_n 0, 1) := by decide +kernel
theorem dX5_readShown_1 : decode cX5_readShown 1 = .ok (.aload_n 1, 1) := by decide +kernel
theorem dX5_readShown_2 : decode cX5_readShown 2 = .ok (.invokevirtual 59, 3) := by decide +kernel
theorem dX5_readShown_5 : decode cX5_readShown 5 = .ok (.istore_n 2, 1) := by decide +kernel
theorem dX5_readShown_6 : decode cX5_readShown 6 = .ok (.aload_n 0, 1) := by decide +kernel
theorem dX5_readShown_7 : decode cX5_readShown 7 = .ok (.getfield 12, 3) := by decide +kernel
theorem dX5_readShown_10 : decode cX5_readShown 10 = .ok (.iload_n 2, 1) := by decide +kernel
theorem dX5_readShown_11 : decode cX5_readShown 11 = .ok (.invokevirtual 73, 3) := by decide +kernel
theorem dX5_readShown_14 : decode cX5_readShown 14 = .ok (.ifCond .ne 5, 3) := by decide +kernel
theorem dX5_readShown_17 : decode cX5_readShown 17 = .ok (.iconst 0, 1) := by decide +kernel
theorem dX5_readShown_18 : decode cX5_readShown 18 = .ok (.ireturn, 1) := by decide +kernel
theorem dX5_readShown_19 : decode cX5_readShown 19 = .ok (.aload_n 0, 1) := by decide +kernel
theorem dX5_readShown_20 : decode cX5_readShown 20 = .ok (.dup, 1) := by decide +kernel
theorem dX5_readShown_21 : decode cX5_readShown 21 = .ok (.getfield 21, 3) := by decide +kernel
theorem dX5_readShown_24 : decode cX5_readShown 24 = .ok (.iconst 1, 1) := by decide +kernel
theorem dX5_readShown_25 : decode cX5_readShown 25 = .ok (.iadd, 1) := by decide +kernel
theorem dX5_readShown_26 : decode cX5_readShown 26 = .ok (.putfield 21, 3) := by decide +kernel
theorem dX5_readShown_29 : decode cX5_readShown 29 = .ok (.aload_n 0, 1) := by decide +kernel
theorem dX5_readShown_30 : decode cX5_readShown 30 = .ok (.aload_n 1, 1) := by decide +kernel
theorem dX5_readShown_31 : decode cX5_readShown 31 = .ok (.invokevirtual 59, 3) := by decide +kernel
theorem dX5_readShown_34 : decode cX5_readShown 34 = .ok (.istore_n 3, 1) := by decide +kernel
theorem dX5_readShown_35 : decode cX5_readShown 35 = .ok (.aload_n 0, 1) := by decide +kernel
theorem dX5_readShown_36 : decode cX5_readShown 36 = .ok (.getfield 12, 3) := by decide +kernel
theorem dX5_readShown_39 : decode cX5_readShown 39 = .ok (.iload_n 2, 1) := by decide +kernel
theorem dX5_readShown_40 : decode cX5_readShown 40 = .ok (.iload_n 3, 1) := by decide +kernel
theorem dX5_readShown_41 : decode cX5_readShown 41 = .ok (.invokevirtual 85, 3) := by decide +kernel
theorem dX5_readShown_44 : decode cX5_readShown 44 = .ok (.ifCond .ne 5, 3) := by decide +kernel
theorem dX5_readShown_47 : decode cX5_readShown 47 = .ok (.iconst 0, 1) := by decide +kernel
theorem dX5_readShown_48 : decode cX5_readShown 48 = .ok (.ireturn, 1) := by decide +kernel
theorem dX5_readShown_49 : decode cX5_readShown 49 = .ok (.aload_n 0, 1) := by decide +kernel
theorem dX5_readShown_50 : decode cX5_readShown 50 = .ok (.dup, 1) := by decide +kernel
theorem dX5_readShown_51 : decode cX5_readShown 51 = .ok (.getfield 21, 3) := by decide +kernel
theorem dX5_readShown_54 : decode cX5_readShown 54 = .ok (.iconst 1, 1) := by decide +kernel
theorem dX5_readShown_55 : decode cX5_readShown 55 = .ok (.iadd, 1) := by decide +kernel
theorem dX5_readShown_56 : decode cX5_readShown 56 = .ok (.putfield 21, 3) := by decide +kernel
theorem dX5_readShown_59 : decode cX5_readShown 59 = .ok (.aload_n 0, 1) := by decide +kernel
theorem dX5_readShown_60 : decode cX5_readShown 60 = .ok (.getfield 12, 3) := by decide +kernel
theorem dX5_readShown_63 : decode cX5_readShown 63 = .ok (.iload_n 2, 1) := by decide +kernel
theorem dX5_readShown_64 : decode cX5_readShown 64 = .ok (.putfield 88, 3) := by decide +kernel
theorem dX5_readShown_67 : decode cX5_readShown 67 = .ok (.aload_n 0, 1) := by decide +kernel
theorem dX5_readShown_68 : decode cX5_readShown 68 = .ok (.getfield 12, 3) := by decide +kernel
theorem dX5_readShown_71 : decode cX5_readShown 71 = .ok (.iload_n 3, 1) := by decide +kernel
theorem dX5_readShown_72 : decode cX5_readShown 72 = .ok (.putfield 91, 3) := by decide +kernel
theorem dX5_readShown_75 : decode cX5_readShown 75 = .ok (.iconst 1, 1) := by decide +kernel
theorem dX5_readShown_76 : decode cX5_readShown 76 = .ok (.ireturn, 1) := by decide +kernel
theorem dX5_figure_0 : decode cX5_figure 0 = .ok (.aload_n 1, 1) := by decide +kernel
theorem dX5_figure_1 : decode cX5_figure 1 = .ok (.aload_n 0, 1) := by decide +kernel
theorem dX5_figure_2 : decode cX5_figure 2 = .ok (.getfield 21, 3) := by decide +kernel
theorem dX5_figure_5 : decode cX5_figure 5 = .ok (.invokevirtual 44, 3) := by decide +kernel
theorem dX5_figure_8 : decode cX5_figure 8 = .ok (.istore_n 2, 1) := by decide +kernel
theorem dX5_figure_9 : decode cX5_figure 9 = .ok (.iload_n 2, 1) := by decide +kernel
theorem dX5_figure_10 : decode cX5_figure 10 = .ok (.bipush 48, 2) := by decide +kernel
theorem dX5_figure_12 : decode cX5_figure 12 = .ok (.if_icmp .lt 16, 3) := by decide +kernel
theorem dX5_figure_15 : decode cX5_figure 15 = .ok (.iload_n 2, 1) := by decide +kernel
theorem dX5_figure_16 : decode cX5_figure 16 = .ok (.bipush 57, 2) := by decide +kernel
theorem dX5_figure_18 : decode cX5_figure 18 = .ok (.if_icmp .gt 10, 3) := by decide +kernel
theorem dX5_figure_21 : decode cX5_figure 21 = .ok (.iload_n 2, 1) := by decide +kernel
theorem dX5_figure_22 : decode cX5_figure 22 = .ok (.bipush 48, 2) := by decide +kernel
theorem dX5_figure_24 : decode cX5_figure 24 = .ok (.isub, 1) := by decide +kernel
theorem dX5_figure_25 : decode cX5_figure 25 = .ok (.goto 5, 3) := by decide +kernel
theorem dX5_figure_28 : decode cX5_figure 28 = .ok (.bipush (-4), 2) := by decide +kernel
theorem dX5_figure_30 : decode cX5_figure 30 = .ok (.ireturn, 1) := by decide +kernel
