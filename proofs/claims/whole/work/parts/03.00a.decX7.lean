theorem dX7_init_0 : decode cX7_init 0 = .ok (.aload_n 0, 1) := by decide +kernel
theorem dX7_init_1 : decode cX7_init 1 = .ok (.invokespecial 3, 3) := by decide +kernel
theorem dX7_init_4 : decode cX7_init 4 = .ok (.aload_n 0, 1) := by decide +kernel
theorem dX7_init_5 : decode cX7_init 5 = .ok (.bipush 8, 2) := by decide +kernel
theorem dX7_init_7 : decode cX7_init 7 = .ok (.newarray .int, 2) := by decide +kernel
theorem dX7_init_9 : decode cX7_init 9 = .ok (.putfield 9, 3) := by decide +kernel
theorem dX7_init_12 : decode cX7_init 12 = .ok (.aload_n 0, 1) := by decide +kernel
theorem dX7_init_13 : decode cX7_init 13 = .ok (.bipush 8, 2) := by decide +kernel
theorem dX7_init_15 : decode cX7_init 15 = .ok (.newarray .int, 2) := by decide +kernel
theorem dX7_init_17 : decode cX7_init 17 = .ok (.putfield 15, 3) := by decide +kernel
theorem dX7_init_20 : decode cX7_init 20 = .ok (.aload_n 0, 1) := by decide +kernel
theorem dX7_init_21 : decode cX7_init 21 = .ok (.bipush 8, 2) := by decide +kernel
theorem dX7_init_23 : decode cX7_init 23 = .ok (.newarray .int, 2) := by decide +kernel
theorem dX7_init_25 : decode cX7_init 25 = .ok (.putfield 18, 3) := by decide +kernel
theorem dX7_init_28 : decode cX7_init 28 = .ok (.aload_n 0, 1) := by decide +kernel
theorem dX7_init_29 : decode cX7_init 29 = .ok (.bipush 8, 2) := by decide +kernel
theorem dX7_init_31 : decode cX7_init 31 = .ok (.newarray .int, 2) := by decide +kernel
theorem dX7_init_33 : decode cX7_init 33 = .ok (.putfield 21, 3) := by decide +kernel
theorem dX7_init_36 : decode cX7_init 36 = .ok (.aload_n 0, 1) := by decide +kernel
theorem dX7_init_37 : decode cX7_init 37 = .ok (.bipush 8, 2) := by decide +kernel
theorem dX7_init_39 : decode cX7_init 39 = .ok (.newarray .int, 2) := by decide +kernel
theorem dX7_init_41 : decode cX7_init 41 = .ok (.putfield 24, 3) := by decide +kernel
theorem dX7_init_44 : decode cX7_init 44 = .ok (.aload_n 0, 1) := by decide +kernel
theorem dX7_init_45 : decode cX7_init 45 = .ok (.bipush 8, 2) := by decide +kernel
theorem dX7_init_47 : decode cX7_init 47 = .ok (.newarray .int, 2) := by decide +kernel
theorem dX7_init_49 : decode cX7_init 49 = .ok (.putfield 27, 3) := by decide +kernel
theorem dX7_init_52 : decode cX7_init 52 = .ok (.return_, 1) := by decide +kernel
theorem dX7_reset_0 : decode cX7_reset 0 = .ok (.aload_n 0, 1) := by decide +kernel
theorem dX7_reset_1 : decode cX7_reset 1 = .ok (.iconst 0, 1) := by decide +kernel
theorem dX7_reset_2 : decode cX7_reset 2 = .ok (.putfield 30, 3) := by decide +kernel
theorem dX7_reset_5 : decode cX7_reset 5 = .ok (.aload_n 0, 1) := by decide +kernel
theorem dX7_reset_6 : decode cX7_reset 6 = .ok (.iconst 0, 1) := by decide +kernel
theorem dX7_reset_7 : decode cX7_reset 7 = .ok (.putfield 34, 3) := by decide +kernel
theorem dX7_reset_10 : decode cX7_reset 10 = .ok (.aload_n 0, 1) := by decide +kernel
theorem dX7_reset_11 : decode cX7_reset 11 = .ok (.iconst 0, 1) := by decide +kernel
theorem dX7_reset_12 : decode cX7_reset 12 = .ok (.putfield 37, 3) := by decide +kernel
theorem dX7_reset_15 : decode cX7_reset 15 = .ok (.aload_n 0, 1) := by decide +kernel
theorem dX7_reset_16 : decode cX7_reset 16 = .ok (.iconst 0, 1) := by decide +kernel
theorem dX7_reset_17 : decode cX7_reset 17 = .ok (.putfield 40, 3) := by decide +kernel
theorem dX7_reset_20 : decode cX7_reset 20 = .ok (.return_, 1) := by decide +kernel
theorem dX7_takeFrom_0 : decode cX7_takeFrom 0 = .ok (.aload_n 1, 1) := by decide +kernel
theorem dX7_takeFrom_1 : decode cX7_takeFrom 1 = .ok (.getfield 9, 3) := by decide +kernel
theorem dX7_takeFrom_4 : decode cX7_takeFrom 4 = .ok (.iconst 0, 1) := by decide +kernel
theorem dX7_takeFrom_5 : decode cX7_takeFrom 5 = .ok (.aload_n 0, 1) := by decide +kernel
theorem dX7_takeFrom_6 : decode cX7_takeFrom 6 = .ok (.getfield 9, 3) := by decide +kernel
theorem dX7_takeFrom_9 : decode cX7_takeFrom 9 = .ok (.iconst 0, 1) := by decide +kernel
theorem dX7_takeFrom_10 : decode cX7_takeFrom 10 = .ok (.bipush 8, 2) := by decide +kernel
theorem dX7_takeFrom_12 : decode cX7_takeFrom 12 = .ok (.invokestatic 43, 3) := by decide +kernel
theorem dX7_takeFrom_15 : decode cX7_takeFrom 15 = .ok (.aload_n 1, 1) := by decide +kernel
theorem dX7_takeFrom_16 : decode cX7_takeFrom 16 = .ok (.getfield 15, 3) := by decide +kernel
theorem dX7_takeFrom_19 : decode cX7_takeFrom 19 = .ok (.iconst 0, 1) := by decide +kernel
theorem dX7_takeFrom_20 : decode cX7_takeFrom 20 = .ok (.aload_n 0, 1) := by decide +kernel
theorem dX7_takeFrom_21 : decode cX7_takeFrom 21 = .ok (.getfield 15, 3) := by decide +kernel
theorem dX7_takeFrom_24 : decode cX7_takeFrom 24 = .ok (.iconst 0, 1) := by decide +kernel
theorem dX7_takeFrom_25 : decode cX7_takeFrom 25 = .ok (.bipush 8, 2) := by decide +kernel
theorem dX7_takeFrom_27 : decode cX7_takeFrom 27 = .ok (.invokestatic 43, 3) := by decide +kernel
theorem dX7_takeFrom_30 : decode cX7_takeFrom 30 = .ok (.aload_n 1, 1) := by decide +kernel
theorem dX7_takeFrom_31 : decode cX7_takeFrom 31 = .ok (.getfield 18, 3) := by decide +kernel
theorem dX7_takeFrom_34 : decode cX7_takeFrom 34 = .ok (.iconst 0, 1) := by decide +kernel
theorem dX7_takeFrom_35 : decode cX7_takeFrom 35 = .ok (.aload_n 0, 1) := by decide +kernel
theorem dX7_takeFrom_36 : decode cX7_takeFrom 36 = .ok (.getfield 18, 3) := by decide +kernel
theorem dX7_takeFrom_39 : decode cX7_takeFrom 39 = .ok (.iconst 0, 1) := by decide +kernel
theorem dX7_takeFrom_40 : decode cX7_takeFrom 40 = .ok (.bipush 8, 2) := by decide +kernel
theorem dX7_takeFrom_42 : decode cX7_takeFrom 42 = .ok (.invokestatic 43, 3) := by decide +kernel
theorem dX7_takeFrom_45 : decode cX7_takeFrom 45 = .ok (.aload_n 1, 1) := by decide +kernel
theorem dX7_takeFrom_46 : decode cX7_takeFrom 46 = .ok (.getfield 21, 3) := by decide +kernel
theorem dX7_takeFrom_49 : decode cX7_takeFrom 49 = .ok (.iconst 0, 1) := by decide +kernel
theorem dX7_takeFrom_50 : decode cX7_takeFrom 50 = .ok (.aload_n 0, 1) := by decide +kernel
theorem dX7_takeFrom_51 : decode cX7_takeFrom 51 = .ok (.getfield 21, 3) := by decide +kernel
theorem dX7_takeFrom_54 : decode cX7_takeFrom 54 = .ok (.iconst 0, 1) := by decide +kernel
theorem dX7_takeFrom_55 : decode cX7_takeFrom 55 = .ok (.bipush 8, 2) := by decide +kernel
theorem dX7_takeFrom_57 : decode cX7_takeFrom 57 = .ok (.invokestatic 43, 3) := by decide +kernel
theorem dX7_takeFrom_60 : decode cX7_takeFrom 60 = .ok (.aload_n 1, 1) := by decide +kernel
theorem dX7_takeFrom_61 : decode cX7_takeFrom 61 = .ok (.getfield 24, 3) := by decide +kernel
theorem dX7_takeFrom_64 : decode cX7_takeFrom 64 = .ok (.iconst 0, 1) := by decide +kernel
theorem dX7_takeFrom_65 : decode cX7_takeFrom 65 = .ok (.aload_n 0, 1) := by decide +kernel
theorem dX7_takeFrom_66 : decode cX7_takeFrom 66 = .ok (.getfield 24, 3) := by decide +kernel
theorem dX7_takeFrom_69 : decode cX7_takeFrom 69 = .ok (.iconst 0, 1) := by decide +kernel
theorem dX7_takeFrom_70 : decode cX7_takeFrom 70 = .ok (.bipush 8, 2) := by decide +kernel
theorem dX7_takeFrom_72 : decode cX7_takeFrom 72 = .ok (.invokestatic 43, 3) := by decide +kernel
theorem dX7_takeFrom_75 : decode cX7_takeFrom 75 = .ok (.aload_n 1, 1) := by decide +kernel
theorem dX7_takeFrom_76 : decode cX7_takeFrom 76 = .ok (.getfield 27, 3) := by decide +kernel
theorem dX7_takeFrom_79 : decode cX7_takeFrom 79 = .ok (.iconst 0, 1) := by decide +kernel
theorem dX7_takeFrom_80 : decode cX7_takeFrom 80 = .ok (.aload_n 0, 1) := by decide +kernel
theorem dX7_takeFrom_81 : decode cX7_takeFrom 81 = .ok (.getfield 27, 3) := by decide +kernel
theorem dX7_takeFrom_84 : decode cX7_takeFrom 84 = .ok (.iconst 0, 1) := by decide +kernel
theorem dX7_takeFrom_85 : decode cX7_takeFrom 85 = .ok (.bipush 8, 2) := by decide +kernel
theorem dX7_takeFrom_87 : decode cX7_takeFrom 87 = .ok (.invokestatic 43, 3) := by decide +kernel
theorem dX7_takeFrom_90 : decode cX7_takeFrom 90 = .ok (.aload_n 0, 1) := by decide +kernel
theorem dX7_takeFrom_91 : decode cX7_takeFrom 91 = .ok (.aload_n 1, 1) := by decide +kernel
theorem dX7_takeFrom_92 : decode cX7_takeFrom 92 = .ok (.getfield 30, 3) := by decide +kernel
theorem dX7_takeFrom_95 : decode cX7_takeFrom 95 = .ok (.putfield 30, 3) := by decide +kernel
theorem dX7_takeFrom_98 : decode cX7_takeFrom 98 = .ok (.aload_n 0, 1) := by decide +kernel
theorem dX7_takeFrom_99 : decode cX7_takeFrom 99 = .ok (.aload_n 1, 1) := by decide +kernel
theorem dX7_takeFrom_100 : decode cX7_takeFrom 100 = .ok (.getfield 34, 3) := by decide +kernel
theorem dX7_takeFrom_103 : decode cX7_takeFrom 103 = .ok (.putfield 34, 3) := by decide +kernel
theorem dX7_takeFrom_106 : decode cX7_takeFrom 106 = .ok (.aload_n 0, 1) := by decide +kernel
theorem dX7_takeFrom_107 : decode cX7_takeFrom 107 = .ok (.aload_n 1, 1) := by decide +kernel
theorem dX7_takeFrom_108 : decode cX7_takeFrom 108 = .ok (.getfield 37, 3) := by decide +kernel
theorem dX7_takeFrom_111 : decode cX7_takeFrom 111 = .ok (.putfield 37, 3) := by decide +kernel
theorem dX7_takeFrom_114 : decode cX7_takeFrom 114 = .ok (.aload_n 0, 1) := by decide +kernel
theorem dX7_takeFrom_115 : decode cX7_takeFrom 115 = .ok (.aload_n 1, 1) := by decide +kernel
theorem dX7_takeFrom_116 : decode cX7_takeFrom 116 = .ok (.getfield 40, 3) := by decide +kernel
theorem dX7_takeFrom_119 : decode cX7_takeFrom 119 = .ok (.putfield 40, 3) := by decide +kernel
theorem dX7_takeFrom_122 : decode cX7_takeFrom 122 = .ok (.return_, 1) := by decide +kernel
theorem dX7_addPicture_0 : decode cX7_addPicture 0 = .ok (.aload_n 0, 1) := by decide +kernel
theorem dX7_addPicture_1 : decode cX7_addPicture 1 = .ok (.getfield 30, 3) := by decide +kernel
theorem dX7_addPicture_4 : decode cX7_addPicture 4 = .ok (.ifCond .lt 12, 3) := by decide +kernel
theorem dX7_addPicture_7 : decode cX7_addPicture 7 = .ok (.aload_n 0, 1) := by decide +kernel
theorem dX7_addPicture_8 : decode cX7_addPicture 8 = .ok (.getfield 30, 3) := by decide +kernel
theorem dX7_addPicture_11 : decode cX7_addPicture 11 = .ok (.bipush 8, 2) := by decide +kernel
theorem dX7_addPicture_13 : decode cX7_addPicture 13 = .ok (.if_icmp .lt 4, 3) := by decide +kernel
theorem dX7_addPicture_16 : decode cX7_addPicture 16 = .ok (.return_, 1) := by decide +kernel
theorem dX7_addPicture_17 : decode cX7_addPicture 17 = .ok (.aload_n 0, 1) := by decide +kernel
theorem dX7_addPicture_18 : decode cX7_addPicture 18 = .ok (.getfield 9, 3) := by decide +kernel
theorem dX7_addPicture_21 : decode cX7_addPicture 21 = .ok (.aload_n 0, 1) := by decide +kernel
theorem dX7_addPicture_22 : decode cX7_addPicture 22 = .ok (.getfield 30, 3) := by decide +kernel
theorem dX7_addPicture_25 : decode cX7_addPicture 25 = .ok (.iload_n 1, 1) := by decide +kernel
theorem dX7_addPicture_26 : decode cX7_addPicture 26 = .ok (.iastore, 1) := by decide +kernel
theorem dX7_addPicture_27 : decode cX7_addPicture 27 = .ok (.aload_n 0, 1) := by decide +kernel
theorem dX7_addPicture_28 : decode cX7_addPicture 28 = .ok (.getfield 15, 3) := by decide +kernel
theorem dX7_addPicture_31 : decode cX7_addPicture 31 = .ok (.aload_n 0, 1) := by decide +kernel
theorem dX7_addPicture_32 : decode cX7_addPicture 32 = .ok (.getfield 30, 3) := by decide +kernel
theorem dX7_addPicture_35 : decode cX7_addPicture 35 = .ok (.iload_n 2, 1) := by decide +kernel
theorem dX7_addPicture_36 : decode cX7_addPicture 36 = .ok (.iastore, 1) := by decide +kernel
theorem dX7_addPicture_37 : decode cX7_addPicture 37 = .ok (.aload_n 0, 1) := by decide +kernel
theorem dX7_addPicture_38 : decode cX7_addPicture 38 = .ok (.getfield 18, 3) := by decide +kernel
theorem dX7_addPicture_41 : decode cX7_addPicture 41 = .ok (.aload_n 0, 1) := by decide +kernel
theorem dX7_addPicture_42 : decode cX7_addPicture 42 = .ok (.getfield 30, 3) := by decide +kernel
theorem dX7_addPicture_45 : decode cX7_addPicture 45 = .ok (.iload_n 3, 1) := by decide +kernel
theorem dX7_addPicture_46 : decode cX7_addPicture 46 = .ok (.iastore, 1) := by decide +kernel
theorem dX7_addPicture_47 : decode cX7_addPicture 47 = .ok (.aload_n 0, 1) := by decide +kernel
theorem dX7_addPicture_48 : decode cX7_addPicture 48 = .ok (.getfield 21, 3) := by decide +kernel
theorem dX7_addPicture_51 : decode cX7_addPicture 51 = .ok (.aload_n 0, 1) := by decide +kernel
theorem dX7_addPicture_52 : decode cX7_addPicture 52 = .ok (.getfield 30, 3) := by decide +kernel
theorem dX7_addPicture_55 : decode cX7_addPicture 55 = .ok (.iconst 0, 1) := by decide +kernel
theorem dX7_addPicture_56 : decode cX7_addPicture 56 = .ok (.iastore, 1) := by decide +kernel
theorem dX7_addPicture_57 : decode cX7_addPicture 57 = .ok (.aload_n 0, 1) := by decide +kernel
theorem dX7_addPicture_58 : decode cX7_addPicture 58 = .ok (.getfield 24, 3) := by decide +kernel
theorem dX7_addPicture_61 : decode cX7_addPicture 61 = .ok (.aload_n 0, 1) := by decide +kernel
theorem dX7_addPicture_62 : decode cX7_addPicture 62 = .ok (.getfield 30, 3) := by decide +kernel
theorem dX7_addPicture_65 : decode cX7_addPicture 65 = .ok (.iconst 0, 1) := by decide +kernel
theorem dX7_addPicture_66 : decode cX7_addPicture 66 = .ok (.iastore, 1) := by decide +kernel
theorem dX7_addPicture_67 : decode cX7_addPicture 67 = .ok (.aload_n 0, 1) := by decide +kernel
theorem dX7_addPicture_68 : decode cX7_addPicture 68 = .ok (.dup, 1) := by decide +kernel
theorem dX7_addPicture_69 : decode cX7_addPicture 69 = .ok (.getfield 30, 3) := by decide +kernel
theorem dX7_addPicture_72 : decode cX7_addPicture 72 = .ok (.iconst 1, 1) := by decide +kernel
theorem dX7_addPicture_73 : decode cX7_addPicture 73 = .ok (.iadd, 1) := by decide +kernel
theorem dX7_addPicture_74 : decode cX7_addPicture 74 = .ok (.putfield 30, 3) := by decide +kernel
theorem dX7_addPicture_77 : decode cX7_addPicture 77 = .ok (.return_, 1) := by decide +kernel
theorem dX7_beBare_0 : decode cX7_beBare 0 = .ok (.aload_n 0, 1) := by decide +kernel
theorem dX7_beBare_1 : decode cX7_beBare 1 = .ok (.invokevirtual 49, 3) := by decide +kernel
theorem dX7_beBare_4 : decode cX7_beBare 4 = .ok (.iconst 0, 1) := by decide +kernel
theorem dX7_beBare_5 : decode cX7_beBare 5 = .ok (.istore_n 2, 1) := by decide +kernel
theorem dX7_beBare_6 : decode cX7_beBare 6 = .ok (.iload_n 2, 1) := by decide +kernel
theorem dX7_beBare_7 : decode cX7_beBare 7 = .ok (.iload_n 1, 1) := by decide +kernel
theorem dX7_beBare_8 : decode cX7_beBare 8 = .ok (.if_icmp .ge 16, 3) := by decide +kernel
theorem dX7_beBare_11 : decode cX7_beBare 11 = .ok (.aload_n 0, 1) := by decide +kernel
theorem dX7_beBare_12 : decode cX7_beBare 12 = .ok (.iconst 1, 1) := by decide +kernel
theorem dX7_beBare_13 : decode cX7_beBare 13 = .ok (.iconst 0, 1) := by decide +kernel
theorem dX7_beBare_14 : decode cX7_beBare 14 = .ok (.iconst 1, 1) := by decide +kernel
theorem dX7_beBare_15 : decode cX7_beBare 15 = .ok (.invokevirtual 54, 3) := by decide +kernel
theorem dX7_beBare_18 : decode cX7_beBare 18 = .ok (.iinc 2 1, 3) := by decide +kernel
theorem dX7_beBare_21 : decode cX7_beBare 21 = .ok (.goto (-15), 3) := by decide +kernel
theorem dX7_beBare_24 : decode cX7_beBare 24 = .ok (.aload_n 0, 1) := by decide +kernel
theorem dX7_beBare_25 : decode cX7_beBare 25 = .ok (.invokevirtual 58, 3) := by decide +kernel
theorem dX7_beBare_28 : decode cX7_beBare 28 = .ok (.return_, 1) := by decide +kernel
theorem dX7_layRing_0 : decode cX7_layRing 0 = .ok (.iconst 0, 1) := by decide +kernel
theorem dX7_layRing_1 : decode cX7_layRing 1 = .ok (.istore_n 1, 1) := by decide +kernel
theorem dX7_layRing_2 : decode cX7_layRing 2 = .ok (.iload_n 1, 1) := by decide +kernel
theorem dX7_layRing_3 : decode cX7_layRing 3 = .ok (.bipush 8, 2) := by decide +kernel
theorem dX7_layRing_5 : decode cX7_layRing 5 = .ok (.if_icmp .ge 16, 3) := by decide +kernel
theorem dX7_layRing_8 : decode cX7_layRing 8 = .ok (.aload_n 0, 1) := by decide +kernel
theorem dX7_layRing_9 : decode cX7_layRing 9 = .ok (.getfield 27, 3) := by decide +kernel
theorem dX7_layRing_12 : decode cX7_layRing 12 = .ok (.iload_n 1, 1) := by decide +kernel
theorem dX7_layRing_13 : decode cX7_layRing 13 = .ok (.iconst 0, 1) := by decide +kernel
theorem dX7_layRing_14 : decode cX7_layRing 14 = .ok (.iastore, 1) := by decide +kernel
theorem dX7_layRing_15 : decode cX7_layRing 15 = .ok (.iinc 1 1, 3) := by decide +kernel
theorem dX7_layRing_18 : decode cX7_layRing 18 = .ok (.goto (-16), 3) := by decide +kernel
theorem dX7_layRing_21 : decode cX7_layRing 21 = .ok (.iconst 0, 1) := by decide +kernel
theorem dX7_layRing_22 : decode cX7_layRing 22 = .ok (.istore_n 1, 1) := by decide +kernel
theorem dX7_layRing_23 : decode cX7_layRing 23 = .ok (.iload_n 1, 1) := by decide +kernel
theorem dX7_layRing_24 : decode cX7_layRing 24 = .ok (.aload_n 0, 1) := by decide +kernel
theorem dX7_layRing_25 : decode cX7_layRing 25 = .ok (.getfield 30, 3) := by decide +kernel
theorem dX7_layRing_28 : decode cX7_layRing 28 = .ok (.if_icmp .ge 22, 3) := by decide +kernel
theorem dX7_layRing_31 : decode cX7_layRing 31 = .ok (.aload_n 0, 1) := by decide +kernel
theorem dX7_layRing_32 : decode cX7_layRing 32 = .ok (.iload_n 1, 1) := by decide +kernel
theorem dX7_layRing_33 : decode cX7_layRing 33 = .ok (.iload_n 1, 1) := by decide +kernel
theorem dX7_layRing_34 : decode cX7_layRing 34 = .ok (.iconst 1, 1) := by decide +kernel
theorem dX7_layRing_35 : decode cX7_layRing 35 = .ok (.iadd, 1) := by decide +kernel
theorem dX7_layRing_36 : decode cX7_layRing 36 = .ok (.aload_n 0, 1) := by decide +kernel
theorem dX7_layRing_37 : decode cX7_layRing 37 = .ok (.getfield 30, 3) := by decide +kernel
theorem dX7_layRing_40 : decode cX7_layRing 40 = .ok (.irem, 1) := by decide +kernel
theorem dX7_layRing_41 : decode cX7_layRing 41 = .ok (.invokevirtual 61, 3) := by decide +kernel
theorem dX7_layRing_44 : decode cX7_layRing 44 = .ok (.iinc 1 1, 3) := by decide +kernel
theorem dX7_layRing_47 : decode cX7_layRing 47 = .ok (.goto (-24), 3) := by decide +kernel
theorem dX7_layRing_50 : decode cX7_layRing 50 = .ok (.return_, 1) := by decide +kernel
theorem dX7_isMissing_0 : decode cX7_isMissing 0 = .ok (.aload_n 0, 1) := by decide +kernel
theorem dX7_isMissing_1 : decode cX7_isMissing 1 = .ok (.getfield 30, 3) := by decide +kernel
theorem dX7_isMissing_4 : decode cX7_isMissing 4 = .ok (.ifCond .ne 7, 3) := by decide +kernel
theorem dX7_isMissing_7 : decode cX7_isMissing 7 = .ok (.iconst 1, 1) := by decide +kernel
theorem dX7_isMissing_8 : decode cX7_isMissing 8 = .ok (.goto 4, 3) := by decide +kernel
theorem dX7_isMissing_11 : decode cX7_isMissing 11 = .ok (.iconst 0, 1) := by decide +kernel
theorem dX7_isMissing_12 : decode cX7_isMissing 12 = .ok (.ireturn, 1) := by decide +kernel
theorem dX7_has_0 : decode cX7_has 0 = .ok (.iload_n 1, 1) := by decide +kernel
theorem dX7_has_1 : decode cX7_has 1 = .ok (.ifCond .lt 21, 3) := by decide +kernel
theorem dX7_has_4 : decode cX7_has 4 = .ok (.iload_n 1, 1) := by decide +kernel
theorem dX7_has_5 : decode cX7_has 5 = .ok (.aload_n 0, 1) := by decide +kernel
theorem dX7_has_6 : decode cX7_has 6 = .ok (.getfield 30, 3) := by decide +kernel
theorem dX7_has_9 : decode cX7_has 9 = .ok (.if_icmp .ge 13, 3) := by decide +kernel
theorem dX7_has_12 : decode cX7_has 12 = .ok (.iload_n 1, 1) := by decide +kernel
theorem dX7_has_13 : decode cX7_has 13 = .ok (.bipush 8, 2) := by decide +kernel
theorem dX7_has_15 : decode cX7_has 15 = .ok (.if_icmp .ge 7, 3) := by decide +kernel
theorem dX7_has_18 : decode cX7_has 18 = .ok (.iconst 1, 1) := by decide +kernel
theorem dX7_has_19 : decode cX7_has 19 = .ok (.goto 4, 3) := by decide +kernel
theorem dX7_has_22 : decode cX7_has 22 = .ok (.iconst 0, 1) := by decide +kernel
theorem dX7_has_23 : decode cX7_has 23 = .ok (.ireturn, 1) := by decide +kernel
theorem dX7_areLinked_0 : decode cX7_areLinked 0 = .ok (.aload_n 0, 1) := by decide +kernel
theorem dX7_areLinked_1 : decode cX7_areLinked 1 = .ok (.iload_n 1, 1) := by decide +kernel
theorem dX7_areLinked_2 : decode cX7_areLinked 2 = .ok (.invokevirtual 65, 3) := by decide +kernel
theorem dX7_areLinked_5 : decode cX7_areLinked 5 = .ok (.ifCond .eq 29, 3) := by decide +kernel
theorem dX7_areLinked_8 : decode cX7_areLinked 8 = .ok (.aload_n 0, 1) := by decide +kernel
theorem dX7_areLinked_9 : decode cX7_areLinked 9 = .ok (.iload_n 2, 1) := by decide +kernel
theorem dX7_areLinked_10 : decode cX7_areLinked 10 = .ok (.invokevirtual 65, 3) := by decide +kernel
theorem dX7_areLinked_13 : decode cX7_areLinked 13 = .ok (.ifCond .eq 21, 3) := by decide +kernel
theorem dX7_areLinked_16 : decode cX7_areLinked 16 = .ok (.aload_n 0, 1) := by decide +kernel
theorem dX7_areLinked_17 : decode cX7_areLinked 17 = .ok (.getfield 27, 3) := by decide +kernel
theorem dX7_areLinked_20 : decode cX7_areLinked 20 = .ok (.iload_n 1, 1) := by decide +kernel
theorem dX7_areLinked_21 : decode cX7_areLinked 21 = .ok (.iaload, 1) := by decide +kernel
theorem dX7_areLinked_22 : decode cX7_areLinked 22 = .ok (.iload_n 2, 1) := by decide +kernel
theorem dX7_areLinked_23 : decode cX7_areLinked 23 = .ok (.ishr, 1) := by decide +kernel
theorem dX7_areLinked_24 : decode cX7_areLinked 24 = .ok (.iconst 1, 1) := by decide +kernel
theorem dX7_areLinked_25 : decode cX7_areLinked 25 = .ok (.iand, 1) := by decide +kernel
theorem dX7_areLinked_26 : decode cX7_areLinked 26 = .ok (.iconst 1, 1) := by decide +kernel
theorem dX7_areLinked_27 : decode cX7_areLinked 27 = .ok (.if_icmp .ne 7, 3) := by decide +kernel
theorem dX7_areLinked_30 : decode cX7_areLinked 30 = .ok (.iconst 1, 1) := by decide +kernel
theorem dX7_areLinked_31 : decode cX7_areLinked 31 = .ok (.goto 4, 3) := by decide +kernel
theorem dX7_areLinked_34 : decode cX7_areLinked 34 = .ok (.iconst 0, 1) := by decide +kernel
theorem dX7_areLinked_35 : decode cX7_areLinked 35 = .ok (.ireturn, 1) := by decide +kernel
theorem dX7_areNeighbours_0 : decode cX7_areNeighbours 0 = .ok (.iload_n 1, 1) := by decide +kernel
theorem dX7_areNeighbours_1 : decode cX7_areNeighbours 1 = .ok (.iload_n 2, 1) := by decide +kernel
theorem dX7_areNeighbours_2 : decode cX7_areNeighbours 2 = .ok (.isub, 1) := by decide +kernel
theorem dX7_areNeighbours_3 : decode cX7_areNeighbours 3 = .ok (.invokestatic 69, 3) := by decide +kernel
theorem dX7_areNeighbours_6 : decode cX7_areNeighbours 6 = .ok (.istore_n 3, 1) := by decide +kernel
theorem dX7_areNeighbours_7 : decode cX7_areNeighbours 7 = .ok (.iload_n 3, 1) := by decide +kernel
theorem dX7_areNeighbours_8 : decode cX7_areNeighbours 8 = .ok (.iconst 1, 1) := by decide +kernel
theorem dX7_areNeighbours_9 : decode cX7_areNeighbours 9 = .ok (.if_icmp .eq 13, 3) := by decide +kernel
theorem dX7_areNeighbours_12 : decode cX7_areNeighbours 12 = .ok (.iload_n 3, 1) := by decide +kernel
theorem dX7_areNeighbours_13 : decode cX7_areNeighbours 13 = .ok (.aload_n 0, 1) := by decide +kernel
theorem dX7_areNeighbours_14 : decode cX7_areNeighbours 14 = .ok (.getfield 30, 3) := by decide +kernel
theorem dX7_areNeighbours_17 : decode cX7_areNeighbours 17 = .ok (.iconst 1, 1) := by decide +kernel
theorem dX7_areNeighbours_18 : decode cX7_areNeighbours 18 = .ok (.isub, 1) := by decide +kernel
theorem dX7_areNeighbours_19 : decode cX7_areNeighbours 19 = .ok (.if_icmp .ne 7, 3) := by decide +kernel
theorem dX7_areNeighbours_22 : decode cX7_areNeighbours 22 = .ok (.iconst 1, 1) := by decide +kernel
theorem dX7_areNeighbours_23 : decode cX7_areNeighbours 23 = .ok (.goto 4, 3) := by decide +kernel
theorem dX7_areNeighbours_26 : decode cX7_areNeighbours 26 = .ok (.iconst 0, 1) := by decide +kernel
theorem dX7_areNeighbours_27 : decode cX7_areNeighbours 27 = .ok (.ireturn, 1) := by decide +kernel
theorem dX7_isFold_0 : decode cX7_isFold 0 = .ok (.aload_n 0, 1) := by decide +kernel
theorem dX7_isFold_1 : decode cX7_isFold 1 = .ok (.iload_n 1, 1) := by decide +kernel
theorem dX7_isFold_2 : decode cX7_isFold 2 = .ok (.iload_n 2, 1) := by decide +kernel
theorem dX7_isFold_3 : decode cX7_isFold 3 = .ok (.invokevirtual 75, 3) := by decide +kernel
theorem dX7_isFold_6 : decode cX7_isFold 6 = .ok (.ifCond .eq 16, 3) := by decide +kernel
theorem dX7_isFold_9 : decode cX7_isFold 9 = .ok (.aload_n 0, 1) := by decide +kernel
theorem dX7_isFold_10 : decode cX7_isFold 10 = .ok (.iload_n 1, 1) := by decide +kernel
theorem dX7_isFold_11 : decode cX7_isFold 11 = .ok (.iload_n 2, 1) := by decide +kernel
theorem dX7_isFold_12 : decode cX7_isFold 12 = .ok (.invokevirtual 79, 3) := by decide +kernel
theorem dX7_isFold_15 : decode cX7_isFold 15 = .ok (.ifCond .ne 7, 3) := by decide +kernel
theorem dX7_isFold_18 : decode cX7_isFold 18 = .ok (.iconst 1, 1) := by decide +kernel
theorem dX7_isFold_19 : decode cX7_isFold 19 = .ok (.goto 4, 3) := by decide +kernel
theorem dX7_isFold_22 : decode cX7_isFold 22 = .ok (.iconst 0, 1) := by decide +kernel
theorem dX7_isFold_23 : decode cX7_isFold 23 = .ok (.ireturn, 1) := by decide +kernel
theorem dX7_isShowing_0 : decode cX7_isShowing 0 = .ok (.aload_n 0, 1) := by decide +kernel
theorem dX7_isShowing_1 : decode cX7_isShowing 1 = .ok (.getfield 34, 3) := by decide +kernel
theorem dX7_isShowing_4 : decode cX7_isShowing 4 = .ok (.iload_n 1, 1) := by decide +kernel
theorem dX7_isShowing_5 : decode cX7_isShowing 5 = .ok (.if_icmp .ne 11, 3) := by decide +kernel
theorem dX7_isShowing_8 : decode cX7_isShowing 8 = .ok (.aload_n 0, 1) := by decide +kernel
theorem dX7_isShowing_9 : decode cX7_isShowing 9 = .ok (.getfield 37, 3) := by decide +kernel
theorem dX7_isShowing_12 : decode cX7_isShowing 12 = .ok (.iload_n 2, 1) := by decide +kernel
theorem dX7_isShowing_13 : decode cX7_isShowing 13 = .ok (.if_icmp .eq 19, 3) := by decide +kernel
theorem dX7_isShowing_16 : decode cX7_isShowing 16 = .ok (.aload_n 0, 1) := by decide +kernel
theorem dX7_isShowing_17 : decode cX7_isShowing 17 = .ok (.getfield 34, 3) := by decide +kernel
theorem dX7_isShowing_20 : decode cX7_isShowing 20 = .ok (.iload_n 2, 1) := by decide +kernel
theorem dX7_isShowing_21 : decode cX7_isShowing 21 = .ok (.if_icmp .ne 15, 3) := by decide +kernel
theorem dX7_isShowing_24 : decode cX7_isShowing 24 = .ok (.aload_n 0, 1) := by decide +kernel
theorem dX7_isShowing_25 : decode cX7_isShowing 25 = .ok (.getfield 37, 3) := by decide +kernel
theorem dX7_isShowing_28 : decode cX7_isShowing 28 = .ok (.iload_n 1, 1) := by decide +kernel
theorem dX7_isShowing_29 : decode cX7_isShowing 29 = .ok (.if_icmp .ne 7, 3) := by decide +kernel
theorem dX7_isShowing_32 : decode cX7_isShowing 32 = .ok (.iconst 1, 1) := by decide +kernel
theorem dX7_isShowing_33 : decode cX7_isShowing 33 = .ok (.goto 4, 3) := by decide +kernel
theorem dX7_isShowing_36 : decode cX7_isShowing 36 = .ok (.iconst 0, 1) := by decide +kernel
theorem dX7_isShowing_37 : decode cX7_isShowing 37 = .ok (.ireturn, 1) := by decide +kernel
theorem dX7_canJoin_0 : decode cX7_canJoin 0 = .ok (.aload_n 0, 1) := by decide +kernel
theorem dX7_canJoin_1 : decode cX7_canJoin 1 = .ok (.iload_n 1, 1) := by decide +kernel
theorem dX7_canJoin_2 : decode cX7_canJoin 2 = .ok (.invokevirtual 65, 3) := by decide +kernel
theorem dX7_canJoin_5 : decode cX7_canJoin 5 = .ok (.ifCond .eq 25, 3) := by decide +kernel
theorem dX7_canJoin_8 : decode cX7_canJoin 8 = .ok (.aload_n 0, 1) := by decide +kernel
theorem dX7_canJoin_9 : decode cX7_canJoin 9 = .ok (.iload_n 2, 1) := by decide +kernel
theorem dX7_canJoin_10 : decode cX7_canJoin 10 = .ok (.invokevirtual 65, 3) := by decide +kernel
theorem dX7_canJoin_13 : decode cX7_canJoin 13 = .ok (.ifCond .eq 17, 3) := by decide +kernel
theorem dX7_canJoin_16 : decode cX7_canJoin 16 = .ok (.iload_n 1, 1) := by decide +kernel
theorem dX7_canJoin_17 : decode cX7_canJoin 17 = .ok (.iload_n 2, 1) := by decide +kernel
theorem dX7_canJoin_18 : decode cX7_canJoin 18 = .ok (.if_icmp .eq 12, 3) := by decide +kernel
theorem dX7_canJoin_21 : decode cX7_canJoin 21 = .ok (.aload_n 0, 1) := by decide +kernel
theorem dX7_canJoin_22 : decode cX7_canJoin 22 = .ok (.iload_n 1, 1) := by decide +kernel
theorem dX7_canJoin_23 : decode cX7_canJoin 23 = .ok (.iload_n 2, 1) := by decide +kernel
theorem dX7_canJoin_24 : decode cX7_canJoin 24 = .ok (.invokevirtual 75, 3) := by decide +kernel
theorem dX7_canJoin_27 : decode cX7_canJoin 27 = .ok (.ifCond .eq 5, 3) := by decide +kernel
theorem dX7_canJoin_30 : decode cX7_canJoin 30 = .ok (.iconst 0, 1) := by decide +kernel
theorem dX7_canJoin_31 : decode cX7_canJoin 31 = .ok (.ireturn, 1) := by decide +kernel
theorem dX7_canJoin_32 : decode cX7_canJoin 32 = .ok (.iload_n 1, 1) := by decide +kernel
theorem dX7_canJoin_33 : decode cX7_canJoin 33 = .ok (.iload_n 2, 1) := by decide +kernel
theorem dX7_canJoin_34 : decode cX7_canJoin 34 = .ok (.invokestatic 82, 3) := by decide +kernel
theorem dX7_canJoin_37 : decode cX7_canJoin 37 = .ok (.istore_n 3, 1) := by decide +kernel
theorem dX7_canJoin_38 : decode cX7_canJoin 38 = .ok (.iload_n 1, 1) := by decide +kernel
theorem dX7_canJoin_39 : decode cX7_canJoin 39 = .ok (.iload_n 2, 1) := by decide +kernel
theorem dX7_canJoin_40 : decode cX7_canJoin 40 = .ok (.invokestatic 86, 3) := by decide +kernel
theorem dX7_canJoin_43 : decode cX7_canJoin 43 = .ok (.istore 4, 2) := by decide +kernel
theorem dX7_canJoin_45 : decode cX7_canJoin 45 = .ok (.iload_n 3, 1) := by decide +kernel
theorem dX7_canJoin_46 : decode cX7_canJoin 46 = .ok (.iconst 1, 1) := by decide +kernel
theorem dX7_canJoin_47 : decode cX7_canJoin 47 = .ok (.iadd, 1) := by decide +kernel
theorem dX7_canJoin_48 : decode cX7_canJoin 48 = .ok (.istore 5, 2) := by decide +kernel
theorem dX7_canJoin_50 : decode cX7_canJoin 50 = .ok (.iload 5, 2) := by decide +kernel
theorem dX7_canJoin_52 : decode cX7_canJoin 52 = .ok (.iload 4, 2) := by decide +kernel
theorem dX7_canJoin_54 : decode cX7_canJoin 54 = .ok (.if_icmp .ge 53, 3) := by decide +kernel
theorem dX7_canJoin_57 : decode cX7_canJoin 57 = .ok (.iconst 0, 1) := by decide +kernel
theorem dX7_canJoin_58 : decode cX7_canJoin 58 = .ok (.istore 6, 2) := by decide +kernel
theorem dX7_canJoin_60 : decode cX7_canJoin 60 = .ok (.iload 6, 2) := by decide +kernel
theorem dX7_canJoin_62 : decode cX7_canJoin 62 = .ok (.aload_n 0, 1) := by decide +kernel
theorem dX7_canJoin_63 : decode cX7_canJoin 63 = .ok (.getfield 30, 3) := by decide +kernel
theorem dX7_canJoin_66 : decode cX7_canJoin 66 = .ok (.if_icmp .ge 35, 3) := by decide +kernel
theorem dX7_canJoin_69 : decode cX7_canJoin 69 = .ok (.iload 6, 2) := by decide +kernel
theorem dX7_canJoin_71 : decode cX7_canJoin 71 = .ok (.iload_n 3, 1) := by decide +kernel
theorem dX7_canJoin_72 : decode cX7_canJoin 72 = .ok (.if_icmp .lt 10, 3) := by decide +kernel
theorem dX7_canJoin_75 : decode cX7_canJoin 75 = .ok (.iload 6, 2) := by decide +kernel
theorem dX7_canJoin_77 : decode cX7_canJoin 77 = .ok (.iload 4, 2) := by decide +kernel
theorem dX7_canJoin_79 : decode cX7_canJoin 79 = .ok (.if_icmp .le 16, 3) := by decide +kernel
theorem dX7_canJoin_82 : decode cX7_canJoin 82 = .ok (.aload_n 0, 1) := by decide +kernel
theorem dX7_canJoin_83 : decode cX7_canJoin 83 = .ok (.iload 5, 2) := by decide +kernel
theorem dX7_canJoin_85 : decode cX7_canJoin 85 = .ok (.iload 6, 2) := by decide +kernel
theorem dX7_canJoin_87 : decode cX7_canJoin 87 = .ok (.invokevirtual 75, 3) := by decide +kernel
theorem dX7_canJoin_90 : decode cX7_canJoin 90 = .ok (.ifCond .eq 5, 3) := by decide +kernel
theorem dX7_canJoin_93 : decode cX7_canJoin 93 = .ok (.iconst 0, 1) := by decide +kernel
theorem dX7_canJoin_94 : decode cX7_canJoin 94 = .ok (.ireturn, 1) := by decide +kernel
theorem dX7_canJoin_95 : decode cX7_canJoin 95 = .ok (.iinc 6 1, 3) := by decide +kernel
theorem dX7_canJoin_98 : decode cX7_canJoin 98 = .ok (.goto (-38), 3) := by decide +kernel
theorem dX7_canJoin_101 : decode cX7_canJoin 101 = .ok (.iinc 5 1, 3) := by decide +kernel
theorem dX7_canJoin_104 : decode cX7_canJoin 104 = .ok (.goto (-54), 3) := by decide +kernel
theorem dX7_canJoin_107 : decode cX7_canJoin 107 = .ok (.iconst 1, 1) := by decide +kernel
theorem dX7_canJoin_108 : decode cX7_canJoin 108 = .ok (.ireturn, 1) := by decide +kernel
theorem dX7_join_0 : decode cX7_join 0 = .ok (.aload_n 0, 1) := by decide +kernel
theorem dX7_join_1 : decode cX7_join 1 = .ok (.iload_n 1, 1) := by decide +kernel
theorem dX7_join_2 : decode cX7_join 2 = .ok (.invokevirtual 65, 3) := by decide +kernel
theorem dX7_join_5 : decode cX7_join 5 = .ok (.ifCond .eq 35, 3) := by decide +kernel
theorem dX7_join_8 : decode cX7_join 8 = .ok (.aload_n 0, 1) := by decide +kernel
theorem dX7_join_9 : decode cX7_join 9 = .ok (.iload_n 2, 1) := by decide +kernel
theorem dX7_join_10 : decode cX7_join 10 = .ok (.invokevirtual 65, 3) := by decide +kernel
theorem dX7_join_13 : decode cX7_join 13 = .ok (.ifCond .eq 27, 3) := by decide +kernel
theorem dX7_join_16 : decode cX7_join 16 = .ok (.aload_n 0, 1) := by decide +kernel
theorem dX7_join_17 : decode cX7_join 17 = .ok (.getfield 27, 3) := by decide +kernel
theorem dX7_join_20 : decode cX7_join 20 = .ok (.iload_n 1, 1) := by decide +kernel
theorem dX7_join_21 : decode cX7_join 21 = .ok (.dup2, 1) := by decide +kernel
theorem dX7_join_22 : decode cX7_join 22 = .ok (.iaload, 1) := by decide +kernel
theorem dX7_join_23 : decode cX7_join 23 = .ok (.iconst 1, 1) := by decide +kernel
theorem dX7_join_24 : decode cX7_join 24 = .ok (.iload_n 2, 1) := by decide +kernel
theorem dX7_join_25 : decode cX7_join 25 = .ok (.ishl, 1) := by decide +kernel
theorem dX7_join_26 : decode cX7_join 26 = .ok (.ior, 1) := by decide +kernel
theorem dX7_join_27 : decode cX7_join 27 = .ok (.iastore, 1) := by decide +kernel
theorem dX7_join_28 : decode cX7_join 28 = .ok (.aload_n 0, 1) := by decide +kernel
theorem dX7_join_29 : decode cX7_join 29 = .ok (.getfield 27, 3) := by decide +kernel
theorem dX7_join_32 : decode cX7_join 32 = .ok (.iload_n 2, 1) := by decide +kernel
theorem dX7_join_33 : decode cX7_join 33 = .ok (.dup2, 1) := by decide +kernel
theorem dX7_join_34 : decode cX7_join 34 = .ok (.iaload, 1) := by decide +kernel
theorem dX7_join_35 : decode cX7_join 35 = .ok (.iconst 1, 1) := by decide +kernel
theorem dX7_join_36 : decode cX7_join 36 = .ok (.iload_n 1, 1) := by decide +kernel
theorem dX7_join_37 : decode cX7_join 37 = .ok (.ishl, 1) := by decide +kernel
theorem dX7_join_38 : decode cX7_join 38 = .ok (.ior, 1) := by decide +kernel
theorem dX7_join_39 : decode cX7_join 39 = .ok (.iastore, 1) := by decide +kernel
theorem dX7_join_40 : decode cX7_join 40 = .ok (.return_, 1) := by decide +kernel
theorem dX7_part_0 : decode cX7_part 0 = .ok (.aload_n 0, 1) := by decide +kernel
theorem dX7_part_1 : decode cX7_part 1 = .ok (.iload_n 1, 1) := by decide +kernel
theorem dX7_part_2 : decode cX7_part 2 = .ok (.invokevirtual 65, 3) := by decide +kernel
theorem dX7_part_5 : decode cX7_part 5 = .ok (.ifCond .eq 39, 3) := by decide +kernel
theorem dX7_part_8 : decode cX7_part 8 = .ok (.aload_n 0, 1) := by decide +kernel
theorem dX7_part_9 : decode cX7_part 9 = .ok (.iload_n 2, 1) := by decide +kernel
theorem dX7_part_10 : decode cX7_part 10 = .ok (.invokevirtual 65, 3) := by decide +kernel
theorem dX7_part_13 : decode cX7_part 13 = .ok (.ifCond .eq 31, 3) := by decide +kernel
theorem dX7_part_16 : decode cX7_part 16 = .ok (.aload_n 0, 1) := by decide +kernel
theorem dX7_part_17 : decode cX7_part 17 = .ok (.getfield 27, 3) := by decide +kernel
theorem dX7_part_20 : decode cX7_part 20 = .ok (.iload_n 1, 1) := by decide +kernel
theorem dX7_part_21 : decode cX7_part 21 = .ok (.dup2, 1) := by decide +kernel
theorem dX7_part_22 : decode cX7_part 22 = .ok (.iaload, 1) := by decide +kernel
theorem dX7_part_23 : decode cX7_part 23 = .ok (.iconst 1, 1) := by decide +kernel
theorem dX7_part_24 : decode cX7_part 24 = .ok (.iload_n 2, 1) := by decide +kernel
theorem dX7_part_25 : decode cX7_part 25 = .ok (.ishl, 1) := by decide +kernel
theorem dX7_part_26 : decode cX7_part 26 = .ok (.iconst (-1), 1) := by decide +kernel
theorem dX7_part_27 : decode cX7_part 27 = .ok (.ixor, 1) := by decide +kernel
theorem dX7_part_28 : decode cX7_part 28 = .ok (.iand, 1) := by decide +kernel
theorem dX7_part_29 : decode cX7_part 29 = .ok (.iastore, 1) := by decide +kernel
theorem dX7_part_30 : decode cX7_part 30 = .ok (.aload_n 0, 1) := by decide +kernel
theorem dX7_part_31 : decode cX7_part 31 = .ok (.getfield 27, 3) := by decide +kernel
theorem dX7_part_34 : decode cX7_part 34 = .ok (.iload_n 2, 1) := by decide +kernel
theorem dX7_part_35 : decode cX7_part 35 = .ok (.dup2, 1) := by decide +kernel
theorem dX7_part_36 : decode cX7_part 36 = .ok (.iaload, 1) := by decide +kernel
theorem dX7_part_37 : decode cX7_part 37 = .ok (.iconst 1, 1) := by decide +kernel
theorem dX7_part_38 : decode cX7_part 38 = .ok (.iload_n 1, 1) := by decide +kernel
theorem dX7_part_39 : decode cX7_part 39 = .ok (.ishl, 1) := by decide +kernel
theorem dX7_part_40 : decode cX7_part 40 = .ok (.iconst (-1), 1) := by decide +kernel
theorem dX7_part_41 : decode cX7_part 41 = .ok (.ixor, 1) := by decide +kernel
theorem dX7_part_42 : decode cX7_part 42 = .ok (.iand, 1) := by decide +kernel
theorem dX7_part_43 : decode cX7_part 43 = .ok (.iastore, 1) := by decide +kernel
theorem dX7_part_44 : decode cX7_part 44 = .ok (.return_, 1) := by decide +kernel
theorem dX7_third_0 : decode cX7_third 0 = .ok (.aload_n 0, 1) := by decide +kernel
theorem dX7_third_1 : decode cX7_third 1 = .ok (.iload_n 1, 1) := by decide +kernel
theorem dX7_third_2 : decode cX7_third 2 = .ok (.invokevirtual 65, 3) := by decide +kernel
theorem dX7_third_5 : decode cX7_third 5 = .ok (.ifCond .eq 11, 3) := by decide +kernel
theorem dX7_third_8 : decode cX7_third 8 = .ok (.aload_n 0, 1) := by decide +kernel
theorem dX7_third_9 : decode cX7_third 9 = .ok (.iload_n 2, 1) := by decide +kernel
theorem dX7_third_10 : decode cX7_third 10 = .ok (.invokevirtual 65, 3) := by decide +kernel
theorem dX7_third_13 : decode cX7_third 13 = .ok (.ifCond .ne 6, 3) := by decide +kernel
theorem dX7_third_16 : decode cX7_third 16 = .ok (.bipush (-4), 2) := by decide +kernel
theorem dX7_third_18 : decode cX7_third 18 = .ok (.ireturn, 1) := by decide +kernel
theorem dX7_third_19 : decode cX7_third 19 = .ok (.aload_n 0, 1) := by decide +kernel
theorem dX7_third_20 : decode cX7_third 20 = .ok (.getfield 27, 3) := by decide +kernel
theorem dX7_third_23 : decode cX7_third 23 = .ok (.iload_n 1, 1) := by decide +kernel
theorem dX7_third_24 : decode cX7_third 24 = .ok (.iaload, 1) := by decide +kernel
theorem dX7_third_25 : decode cX7_third 25 = .ok (.aload_n 0, 1) := by decide +kernel
theorem dX7_third_26 : decode cX7_third 26 = .ok (.getfield 27, 3) := by decide +kernel
theorem dX7_third_29 : decode cX7_third 29 = .ok (.iload_n 2, 1) := by decide +kernel
theorem dX7_third_30 : decode cX7_third 30 = .ok (.iaload, 1) := by decide +kernel
theorem dX7_third_31 : decode cX7_third 31 = .ok (.iand, 1) := by decide +kernel
theorem dX7_third_32 : decode cX7_third 32 = .ok (.istore 4, 2) := by decide +kernel
theorem dX7_third_34 : decode cX7_third 34 = .ok (.iload_n 3, 1) := by decide +kernel
theorem dX7_third_35 : decode cX7_third 35 = .ok (.ifCond .ne 7, 3) := by decide +kernel
theorem dX7_third_38 : decode cX7_third 38 = .ok (.iload_n 1, 1) := by decide +kernel
theorem dX7_third_39 : decode cX7_third 39 = .ok (.goto 4, 3) := by decide +kernel
theorem dX7_third_42 : decode cX7_third 42 = .ok (.iload_n 2, 1) := by decide +kernel
theorem dX7_third_43 : decode cX7_third 43 = .ok (.istore 5, 2) := by decide +kernel
theorem dX7_third_45 : decode cX7_third 45 = .ok (.iload_n 3, 1) := by decide +kernel
theorem dX7_third_46 : decode cX7_third 46 = .ok (.ifCond .ne 7, 3) := by decide +kernel
theorem dX7_third_49 : decode cX7_third 49 = .ok (.iload_n 2, 1) := by decide +kernel
theorem dX7_third_50 : decode cX7_third 50 = .ok (.goto 4, 3) := by decide +kernel
theorem dX7_third_53 : decode cX7_third 53 = .ok (.iload_n 1, 1) := by decide +kernel
theorem dX7_third_54 : decode cX7_third 54 = .ok (.istore 6, 2) := by decide +kernel
theorem dX7_third_56 : decode cX7_third 56 = .ok (.iconst 1, 1) := by decide +kernel
theorem dX7_third_57 : decode cX7_third 57 = .ok (.istore 7, 2) := by decide +kernel
theorem dX7_third_59 : decode cX7_third 59 = .ok (.iload 7, 2) := by decide +kernel
theorem dX7_third_61 : decode cX7_third 61 = .ok (.aload_n 0, 1) := by decide +kernel
theorem dX7_third_62 : decode cX7_third 62 = .ok (.getfield 30, 3) := by decide +kernel
theorem dX7_third_65 : decode cX7_third 65 = .ok (.if_icmp .ge 45, 3) := by decide +kernel
theorem dX7_third_68 : decode cX7_third 68 = .ok (.iload 5, 2) := by decide +kernel
theorem dX7_third_70 : decode cX7_third 70 = .ok (.iload 7, 2) := by decide +kernel
theorem dX7_third_72 : decode cX7_third 72 = .ok (.iadd, 1) := by decide +kernel
theorem dX7_third_73 : decode cX7_third 73 = .ok (.aload_n 0, 1) := by decide +kernel
theorem dX7_third_74 : decode cX7_third 74 = .ok (.getfield 30, 3) := by decide +kernel
theorem dX7_third_77 : decode cX7_third 77 = .ok (.irem, 1) := by decide +kernel
theorem dX7_third_78 : decode cX7_third 78 = .ok (.istore 8, 2) := by decide +kernel
theorem dX7_third_80 : decode cX7_third 80 = .ok (.iload 8, 2) := by decide +kernel
theorem dX7_third_82 : decode cX7_third 82 = .ok (.iload 6, 2) := by decide +kernel
theorem dX7_third_84 : decode cX7_third 84 = .ok (.if_icmp .ne 6, 3) := by decide +kernel
theorem dX7_third_87 : decode cX7_third 87 = .ok (.bipush (-4), 2) := by decide +kernel
theorem dX7_third_89 : decode cX7_third 89 = .ok (.ireturn, 1) := by decide +kernel
theorem dX7_third_90 : decode cX7_third 90 = .ok (.iload 4, 2) := by decide +kernel
theorem dX7_third_92 : decode cX7_third 92 = .ok (.iload 8, 2) := by decide +kernel
theorem dX7_third_94 : decode cX7_third 94 = .ok (.ishr, 1) := by decide +kernel
theorem dX7_third_95 : decode cX7_third 95 = .ok (.iconst 1, 1) := by decide +kernel
theorem dX7_third_96 : decode cX7_third 96 = .ok (.iand, 1) := by decide +kernel
theorem dX7_third_97 : decode cX7_third 97 = .ok (.iconst 1, 1) := by decide +kernel
theorem dX7_third_98 : decode cX7_third 98 = .ok (.if_icmp .ne 6, 3) := by decide +kernel
theorem dX7_third_101 : decode cX7_third 101 = .ok (.iload 8, 2) := by decide +kernel
theorem dX7_third_103 : decode cX7_third 103 = .ok (.ireturn, 1) := by decide +kernel
theorem dX7_third_104 : decode cX7_third 104 = .ok (.iinc 7 1, 3) := by decide +kernel
theorem dX7_third_107 : decode cX7_third 107 = .ok (.goto (-48), 3) := by decide +kernel
theorem dX7_third_110 : decode cX7_third 110 = .ok (.bipush (-4), 2) := by decide +kernel
theorem dX7_third_112 : decode cX7_third 112 = .ok (.ireturn, 1) := by decide +kernel
theorem dX7_isTorn_0 : decode cX7_isTorn 0 = .ok (.aload_n 0, 1) := by decide +kernel
theorem dX7_isTorn_1 : decode cX7_isTorn 1 = .ok (.iload_n 1, 1) := by decide +kernel
theorem dX7_isTorn_2 : decode cX7_isTorn 2 = .ok (.invokevirtual 65, 3) := by decide +kernel
theorem dX7_isTorn_5 : decode cX7_isTorn 5 = .ok (.ifCond .eq 22, 3) := by decide +kernel
theorem dX7_isTorn_8 : decode cX7_isTorn 8 = .ok (.aload_n 0, 1) := by decide +kernel
theorem dX7_isTorn_9 : decode cX7_isTorn 9 = .ok (.getfield 21, 3) := by decide +kernel
theorem dX7_isTorn_12 : decode cX7_isTorn 12 = .ok (.iload_n 1, 1) := by decide +kernel
theorem dX7_isTorn_13 : decode cX7_isTorn 13 = .ok (.iaload, 1) := by decide +kernel
theorem dX7_isTorn_14 : decode cX7_isTorn 14 = .ok (.aload_n 0, 1) := by decide +kernel
theorem dX7_isTorn_15 : decode cX7_isTorn 15 = .ok (.getfield 18, 3) := by decide +kernel
theorem dX7_isTorn_18 : decode cX7_isTorn 18 = .ok (.iload_n 1, 1) := by decide +kernel
theorem dX7_isTorn_19 : decode cX7_isTorn 19 = .ok (.iaload, 1) := by decide +kernel
theorem dX7_isTorn_20 : decode cX7_isTorn 20 = .ok (.if_icmp .lt 7, 3) := by decide +kernel
theorem dX7_isTorn_23 : decode cX7_isTorn 23 = .ok (.iconst 1, 1) := by decide +kernel
theorem dX7_isTorn_24 : decode cX7_isTorn 24 = .ok (.goto 4, 3) := by decide +kernel
theorem dX7_isTorn_27 : decode cX7_isTorn 27 = .ok (.iconst 0, 1) := by decide +kernel
theorem dX7_isTorn_28 : decode cX7_isTorn 28 = .ok (.ireturn, 1) := by decide +kernel
theorem dX7_effortOf_0 : decode cX7_effortOf 0 = .ok (.aload_n 0, 1) := by decide +kernel
theorem dX7_effortOf_1 : decode cX7_effortOf 1 = .ok (.iload_n 1, 1) := by decide +kernel
theorem dX7_effortOf_2 : decode cX7_effortOf 2 = .ok (.invokevirtual 65, 3) := by decide +kernel
theorem dX7_effortOf_5 : decode cX7_effortOf 5 = .ok (.ifCond .eq 21, 3) := by decide +kernel
theorem dX7_effortOf_8 : decode cX7_effortOf 8 = .ok (.aload_n 0, 1) := by decide +kernel
theorem dX7_effortOf_9 : decode cX7_effortOf 9 = .ok (.getfield 9, 3) := by decide +kernel
theorem dX7_effortOf_12 : decode cX7_effortOf 12 = .ok (.iload_n 1, 1) := by decide +kernel
theorem dX7_effortOf_13 : decode cX7_effortOf 13 = .ok (.iaload, 1) := by decide +kernel
theorem dX7_effortOf_14 : decode cX7_effortOf 14 = .ok (.aload_n 0, 1) := by decide +kernel
theorem dX7_effortOf_15 : decode cX7_effortOf 15 = .ok (.getfield 24, 3) := by decide +kernel
theorem dX7_effortOf_18 : decode cX7_effortOf 18 = .ok (.iload_n 1, 1) := by decide +kernel
theorem dX7_effortOf_19 : decode cX7_effortOf 19 = .ok (.iaload, 1) := by decide +kernel
theorem dX7_effortOf_20 : decode cX7_effortOf 20 = .ok (.invokestatic 89, 3) := by decide +kernel
theorem dX7_effortOf_23 : decode cX7_effortOf 23 = .ok (.goto 4, 3) := by decide +kernel
theorem dX7_effortOf_26 : decode cX7_effortOf 26 = .ok (.iconst 0, 1) := by decide +kernel
theorem dX7_effortOf_27 : decode cX7_effortOf 27 = .ok (.ireturn, 1) := by decide +kernel
theorem dX7_comesBy_0 : decode cX7_comesBy 0 = .ok (.iload_n 1, 1) := by decide +kernel
theorem dX7_comesBy_1 : decode cX7_comesBy 1 = .ok (.iconst 2, 1) := by decide +kernel
theorem dX7_comesBy_2 : decode cX7_comesBy 2 = .ok (.if_icmp .ne 8, 3) := by decide +kernel
theorem dX7_comesBy_5 : decode cX7_comesBy 5 = .ok (.aload_n 0, 1) := by decide +kernel
theorem dX7_comesBy_6 : decode cX7_comesBy 6 = .ok (.getfield 37, 3) := by decide +kernel
theorem dX7_comesBy_9 : decode cX7_comesBy 9 = .ok (.ireturn, 1) := by decide +kernel
theorem dX7_comesBy_10 : decode cX7_comesBy 10 = .ok (.aload_n 0, 1) := by decide +kernel
theorem dX7_comesBy_11 : decode cX7_comesBy 11 = .ok (.aload_n 0, 1) := by decide +kernel
theorem dX7_comesBy_12 : decode cX7_comesBy 12 = .ok (.getfield 34, 3) := by decide +kernel
theorem dX7_comesBy_15 : decode cX7_comesBy 15 = .ok (.aload_n 0, 1) := by decide +kernel
theorem dX7_comesBy_16 : decode cX7_comesBy 16 = .ok (.getfield 37, 3) := by decide +kernel
theorem dX7_comesBy_19 : decode cX7_comesBy 19 = .ok (.iload_n 1, 1) := by decide +kernel
theorem dX7_comesBy_20 : decode cX7_comesBy 20 = .ok (.invokevirtual 91, 3) := by decide +kernel
theorem dX7_comesBy_23 : decode cX7_comesBy 23 = .ok (.istore_n 2, 1) := by decide +kernel
theorem dX7_comesBy_24 : decode cX7_comesBy 24 = .ok (.aload_n 0, 1) := by decide +kernel
theorem dX7_comesBy_25 : decode cX7_comesBy 25 = .ok (.iload_n 2, 1) := by decide +kernel
theorem dX7_comesBy_26 : decode cX7_comesBy 26 = .ok (.invokevirtual 95, 3) := by decide +kernel
theorem dX7_comesBy_29 : decode cX7_comesBy 29 = .ok (.ifCond .eq 8, 3) := by decide +kernel
theorem dX7_comesBy_32 : decode cX7_comesBy 32 = .ok (.bipush (-4), 2) := by decide +kernel
theorem dX7_comesBy_34 : decode cX7_comesBy 34 = .ok (.goto 4, 3) := by decide +kernel
theorem dX7_comesBy_37 : decode cX7_comesBy 37 = .ok (.iload_n 2, 1) := by decide +kernel
theorem dX7_comesBy_38 : decode cX7_comesBy 38 = .ok (.ireturn, 1) := by decide +kernel
theorem dX7_mayDo_0 : decode cX7_mayDo 0 = .ok (.aload_n 0, 1) := by decide +kernel
theorem dX7_mayDo_1 : decode cX7_mayDo 1 = .ok (.iload_n 1, 1) := by decide +kernel
theorem dX7_mayDo_2 : decode cX7_mayDo 2 = .ok (.invokevirtual 98, 3) := by decide +kernel
theorem dX7_mayDo_5 : decode cX7_mayDo 5 = .ok (.ifCond .lt 7, 3) := by decide +kernel
theorem dX7_mayDo_8 : decode cX7_mayDo 8 = .ok (.iconst 1, 1) := by decide +kernel
theorem dX7_mayDo_9 : decode cX7_mayDo 9 = .ok (.goto 4, 3) := by decide +kernel
theorem dX7_mayDo_12 : decode cX7_mayDo 12 = .ok (.iconst 0, 1) := by decide +kernel
theorem dX7_mayDo_13 : decode cX7_mayDo 13 = .ok (.ireturn, 1) := by decide +kernel
theorem dX7_go_0 : decode cX7_go 0 = .ok (.aload_n 0, 1) := by decide +kernel
theorem dX7_go_1 : decode cX7_go 1 = .ok (.iload_n 1, 1) := by decide +kernel
theorem dX7_go_2 : decode cX7_go 2 = .ok (.invokevirtual 98, 3) := by decide +kernel
theorem dX7_go_5 : decode cX7_go 5 = .ok (.istore_n 2, 1) := by decide +kernel
theorem dX7_go_6 : decode cX7_go 6 = .ok (.aload_n 0, 1) := by decide +kernel
theorem dX7_go_7 : decode cX7_go 7 = .ok (.iload_n 2, 1) := by decide +kernel
theorem dX7_go_8 : decode cX7_go 8 = .ok (.invokevirtual 65, 3) := by decide +kernel
theorem dX7_go_11 : decode cX7_go 11 = .ok (.ifCond .ne 4, 3) := by decide +kernel
theorem dX7_go_14 : decode cX7_go 14 = .ok (.return_, 1) := by decide +kernel
theorem dX7_go_15 : decode cX7_go 15 = .ok (.iload_n 1, 1) := by decide +kernel
theorem dX7_go_16 : decode cX7_go 16 = .ok (.iconst 2, 1) := by decide +kernel
theorem dX7_go_17 : decode cX7_go 17 = .ok (.if_icmp .ne 16, 3) := by decide +kernel
theorem dX7_go_20 : decode cX7_go 20 = .ok (.aload_n 0, 1) := by decide +kernel
theorem dX7_go_21 : decode cX7_go 21 = .ok (.dup, 1) := by decide +kernel
theorem dX7_go_22 : decode cX7_go 22 = .ok (.getfield 40, 3) := by decide +kernel
theorem dX7_go_25 : decode cX7_go 25 = .ok (.iconst 1, 1) := by decide +kernel
theorem dX7_go_26 : decode cX7_go 26 = .ok (.iadd, 1) := by decide +kernel
theorem dX7_go_27 : decode cX7_go 27 = .ok (.putfield 40, 3) := by decide +kernel
theorem dX7_go_30 : decode cX7_go 30 = .ok (.goto 54, 3) := by decide +kernel
theorem dX7_go_33 : decode cX7_go 33 = .ok (.aload_n 0, 1) := by decide +kernel
theorem dX7_go_34 : decode cX7_go 34 = .ok (.dup, 1) := by decide +kernel
theorem dX7_go_35 : decode cX7_go 35 = .ok (.getfield 40, 3) := by decide +kernel
theorem dX7_go_38 : decode cX7_go 38 = .ok (.aload_n 0, 1) := by decide +kernel
theorem dX7_go_39 : decode cX7_go 39 = .ok (.iload_n 2, 1) := by decide +kernel
theorem dX7_go_40 : decode cX7_go 40 = .ok (.invokevirtual 101, 3) := by decide +kernel
theorem dX7_go_43 : decode cX7_go 43 = .ok (.iadd, 1) := by decide +kernel
theorem dX7_go_44 : decode cX7_go 44 = .ok (.putfield 40, 3) := by decide +kernel
theorem dX7_go_47 : decode cX7_go 47 = .ok (.aload_n 0, 1) := by decide +kernel
theorem dX7_go_48 : decode cX7_go 48 = .ok (.getfield 21, 3) := by decide +kernel
theorem dX7_go_51 : decode cX7_go 51 = .ok (.iload_n 2, 1) := by decide +kernel
theorem dX7_go_52 : decode cX7_go 52 = .ok (.dup2, 1) := by decide +kernel
theorem dX7_go_53 : decode cX7_go 53 = .ok (.iaload, 1) := by decide +kernel
theorem dX7_go_54 : decode cX7_go 54 = .ok (.aload_n 0, 1) := by decide +kernel
theorem dX7_go_55 : decode cX7_go 55 = .ok (.getfield 9, 3) := by decide +kernel
theorem dX7_go_58 : decode cX7_go 58 = .ok (.iload_n 2, 1) := by decide +kernel
theorem dX7_go_59 : decode cX7_go 59 = .ok (.iaload, 1) := by decide +kernel
theorem dX7_go_60 : decode cX7_go 60 = .ok (.invokestatic 104, 3) := by decide +kernel
theorem dX7_go_63 : decode cX7_go 63 = .ok (.iadd, 1) := by decide +kernel
theorem dX7_go_64 : decode cX7_go 64 = .ok (.iastore, 1) := by decide +kernel
theorem dX7_go_65 : decode cX7_go 65 = .ok (.aload_n 0, 1) := by decide +kernel
theorem dX7_go_66 : decode cX7_go 66 = .ok (.getfield 24, 3) := by decide +kernel
theorem dX7_go_69 : decode cX7_go 69 = .ok (.iload_n 2, 1) := by decide +kernel
theorem dX7_go_70 : decode cX7_go 70 = .ok (.bipush 99, 2) := by decide +kernel
theorem dX7_go_72 : decode cX7_go 72 = .ok (.aload_n 0, 1) := by decide +kernel
theorem dX7_go_73 : decode cX7_go 73 = .ok (.getfield 24, 3) := by decide +kernel
theorem dX7_go_76 : decode cX7_go 76 = .ok (.iload_n 2, 1) := by decide +kernel
theorem dX7_go_77 : decode cX7_go 77 = .ok (.iaload, 1) := by decide +kernel
theorem dX7_go_78 : decode cX7_go 78 = .ok (.iconst 1, 1) := by decide +kernel
theorem dX7_go_79 : decode cX7_go 79 = .ok (.iadd, 1) := by decide +kernel
theorem dX7_go_80 : decode cX7_go 80 = .ok (.invokestatic 82, 3) := by decide +kernel
theorem dX7_go_83 : decode cX7_go 83 = .ok (.iastore, 1) := by decide +kernel
theorem dX7_go_84 : decode cX7_go 84 = .ok (.aload_n 0, 1) := by decide +kernel
theorem dX7_go_85 : decode cX7_go 85 = .ok (.aload_n 0, 1) := by decide +kernel
theorem dX7_go_86 : decode cX7_go 86 = .ok (.getfield 34, 3) := by decide +kernel
theorem dX7_go_89 : decode cX7_go 89 = .ok (.putfield 37, 3) := by decide +kernel
theorem dX7_go_92 : decode cX7_go 92 = .ok (.aload_n 0, 1) := by decide +kernel
theorem dX7_go_93 : decode cX7_go 93 = .ok (.iload_n 2, 1) := by decide +kernel
theorem dX7_go_94 : decode cX7_go 94 = .ok (.putfield 34, 3) := by decide +kernel
theorem dX7_go_97 : decode cX7_go 97 = .ok (.return_, 1) := by decide +kernel
theorem dX7_worthOf_0 : decode cX7_worthOf 0 = .ok (.aload_n 0, 1) := by decide +kernel
theorem dX7_worthOf_1 : decode cX7_worthOf 1 = .ok (.iload_n 1, 1) := by decide +kernel
theorem dX7_worthOf_2 : decode cX7_worthOf 2 = .ok (.invokevirtual 65, 3) := by decide +kernel
theorem dX7_worthOf_5 : decode cX7_worthOf 5 = .ok (.ifCond .eq 12, 3) := by decide +kernel
theorem dX7_worthOf_8 : decode cX7_worthOf 8 = .ok (.aload_n 0, 1) := by decide +kernel
theorem dX7_worthOf_9 : decode cX7_worthOf 9 = .ok (.getfield 15, 3) := by decide +kernel
theorem dX7_worthOf_12 : decode cX7_worthOf 12 = .ok (.iload_n 1, 1) := by decide +kernel
theorem dX7_worthOf_13 : decode cX7_worthOf 13 = .ok (.iaload, 1) := by decide +kernel
theorem dX7_worthOf_14 : decode cX7_worthOf 14 = .ok (.goto 4, 3) := by decide +kernel
theorem dX7_worthOf_17 : decode cX7_worthOf 17 = .ok (.iconst 0, 1) := by decide +kernel
theorem dX7_worthOf_18 : decode cX7_worthOf 18 = .ok (.ireturn, 1) := by decide +kernel
theorem dX7_shownSet_0 : decode cX7_shownSet 0 = .ok (.iconst 0, 1) := by decide +kernel
theorem dX7_shownSet_1 : decode cX7_shownSet 1 = .ok (.istore_n 1, 1) := by decide +kernel
theorem dX7_shownSet_2 : decode cX7_shownSet 2 = .ok (.iconst 0, 1) := by decide +kernel
theorem dX7_shownSet_3 : decode cX7_shownSet 3 = .ok (.istore_n 2, 1) := by decide +kernel
theorem dX7_shownSet_4 : decode cX7_shownSet 4 = .ok (.iload_n 2, 1) := by decide +kernel
theorem dX7_shownSet_5 : decode cX7_shownSet 5 = .ok (.aload_n 0, 1) := by decide +kernel
theorem dX7_shownSet_6 : decode cX7_shownSet 6 = .ok (.getfield 30, 3) := by decide +kernel
theorem dX7_shownSet_9 : decode cX7_shownSet 9 = .ok (.if_icmp .ge 24, 3) := by decide +kernel
theorem dX7_shownSet_12 : decode cX7_shownSet 12 = .ok (.aload_n 0, 1) := by decide +kernel
theorem dX7_shownSet_13 : decode cX7_shownSet 13 = .ok (.getfield 24, 3) := by decide +kernel
theorem dX7_shownSet_16 : decode cX7_shownSet 16 = .ok (.iload_n 2, 1) := by decide +kernel
theorem dX7_shownSet_17 : decode cX7_shownSet 17 = .ok (.iaload, 1) := by decide +kernel
theorem dX7_shownSet_18 : decode cX7_shownSet 18 = .ok (.ifCond .le 9, 3) := by decide +kernel
theorem dX7_shownSet_21 : decode cX7_shownSet 21 = .ok (.iload_n 1, 1) := by decide +kernel
theorem dX7_shownSet_22 : decode cX7_shownSet 22 = .ok (.iconst 1, 1) := by decide +kernel
theorem dX7_shownSet_23 : decode cX7_shownSet 23 = .ok (.iload_n 2, 1) := by decide +kernel
theorem dX7_shownSet_24 : decode cX7_shownSet 24 = .ok (.ishl, 1) := by decide +kernel
theorem dX7_shownSet_25 : decode cX7_shownSet 25 = .ok (.ior, 1) := by decide +kernel
theorem dX7_shownSet_26 : decode cX7_shownSet 26 = .ok (.istore_n 1, 1) := by decide +kernel
theorem dX7_shownSet_27 : decode cX7_shownSet 27 = .ok (.iinc 2 1, 3) := by decide +kernel
theorem dX7_shownSet_30 : decode cX7_shownSet 30 = .ok (.goto (-26), 3) := by decide +kernel
theorem dX7_shownSet_33 : decode cX7_shownSet 33 = .ok (.iload_n 1, 1) := by decide +kernel
theorem dX7_shownSet_34 : decode cX7_shownSet 34 = .ok (.ireturn, 1) := by decide +kernel
theorem dX7_tornSet_0 : decode cX7_tornSet 0 = .ok (.iconst 0, 1) := by decide +kernel
theorem dX7_tornSet_1 : decode cX7_tornSet 1 = .ok (.istore_n 1, 1) := by decide +kernel
theorem dX7_tornSet_2 : decode cX7_tornSet 2 = .ok (.iconst 0, 1) := by decide +kernel
theorem dX7_tornSet_3 : decode cX7_tornSet 3 = .ok (.istore_n 2, 1) := by decide +kernel
theorem dX7_tornSet_4 : decode cX7_tornSet 4 = .ok (.iload_n 2, 1) := by decide +kernel
theorem dX7_tornSet_5 : decode cX7_tornSet 5 = .ok (.aload_n 0, 1) := by decide +kernel
theorem dX7_tornSet_6 : decode cX7_tornSet 6 = .ok (.getfield 30, 3) := by decide +kernel
theorem dX7_tornSet_9 : decode cX7_tornSet 9 = .ok (.if_icmp .ge 23, 3) := by decide +kernel
theorem dX7_tornSet_12 : decode cX7_tornSet 12 = .ok (.aload_n 0, 1) := by decide +kernel
theorem dX7_tornSet_13 : decode cX7_tornSet 13 = .ok (.iload_n 2, 1) := by decide +kernel
theorem dX7_tornSet_14 : decode cX7_tornSet 14 = .ok (.invokevirtual 95, 3) := by decide +kernel
theorem dX7_tornSet_17 : decode cX7_tornSet 17 = .ok (.ifCond .eq 9, 3) := by decide +kernel
theorem dX7_tornSet_20 : decode cX7_tornSet 20 = .ok (.iload_n 1, 1) := by decide +kernel
theorem dX7_tornSet_21 : decode cX7_tornSet 21 = .ok (.iconst 1, 1) := by decide +kernel
theorem dX7_tornSet_22 : decode cX7_tornSet 22 = .ok (.iload_n 2, 1) := by decide +kernel
theorem dX7_tornSet_23 : decode cX7_tornSet 23 = .ok (.ishl, 1) := by decide +kernel
theorem dX7_tornSet_24 : decode cX7_tornSet 24 = .ok (.ior, 1) := by decide +kernel
theorem dX7_tornSet_25 : decode cX7_tornSet 25 = .ok (.istore_n 1, 1) := by decide +kernel
theorem dX7_tornSet_26 : decode cX7_tornSet 26 = .ok (.iinc 2 1, 3) := by decide +kernel
theorem dX7_tornSet_29 : decode cX7_tornSet 29 = .ok (.goto (-25), 3) := by decide +kernel
theorem dX7_tornSet_32 : decode cX7_tornSet 32 = .ok (.iload_n 1, 1) := by decide +kernel
theorem dX7_tornSet_33 : decode cX7_tornSet 33 = .ok (.ireturn, 1) := by decide +kernel
theorem dX7_wearOfAll_0 : decode cX7_wearOfAll 0 = .ok (.iconst 0, 1) := by decide +kernel
theorem dX7_wearOfAll_1 : decode cX7_wearOfAll 1 = .ok (.istore_n 1, 1) := by decide +kernel
theorem dX7_wearOfAll_2 : decode cX7_wearOfAll 2 = .ok (.iconst 0, 1) := by decide +kernel
theorem dX7_wearOfAll_3 : decode cX7_wearOfAll 3 = .ok (.istore_n 2, 1) := by decide +kernel
theorem dX7_wearOfAll_4 : decode cX7_wearOfAll 4 = .ok (.iload_n 2, 1) := by decide +kernel
theorem dX7_wearOfAll_5 : decode cX7_wearOfAll 5 = .ok (.aload_n 0, 1) := by decide +kernel
theorem dX7_wearOfAll_6 : decode cX7_wearOfAll 6 = .ok (.getfield 30, 3) := by decide +kernel
theorem dX7_wearOfAll_9 : decode cX7_wearOfAll 9 = .ok (.if_icmp .ge 18, 3) := by decide +kernel
theorem dX7_wearOfAll_12 : decode cX7_wearOfAll 12 = .ok (.iload_n 1, 1) := by decide +kernel
theorem dX7_wearOfAll_13 : decode cX7_wearOfAll 13 = .ok (.aload_n 0, 1) := by decide +kernel
theorem dX7_wearOfAll_14 : decode cX7_wearOfAll 14 = .ok (.getfield 21, 3) := by decide +kernel
theorem dX7_wearOfAll_17 : decode cX7_wearOfAll 17 = .ok (.iload_n 2, 1) := by decide +kernel
theorem dX7_wearOfAll_18 : decode cX7_wearOfAll 18 = .ok (.iaload, 1) := by decide +kernel
theorem dX7_wearOfAll_19 : decode cX7_wearOfAll 19 = .ok (.iadd, 1) := by decide +kernel
theorem dX7_wearOfAll_20 : decode cX7_wearOfAll 20 = .ok (.istore_n 1, 1) := by decide +kernel
theorem dX7_wearOfAll_21 : decode cX7_wearOfAll 21 = .ok (.iinc 2 1, 3) := by decide +kernel
theorem dX7_wearOfAll_24 : decode cX7_wearOfAll 24 = .ok (.goto (-20), 3) := by decide +kernel
theorem dX7_wearOfAll_27 : decode cX7_wearOfAll 27 = .ok (.iload_n 1, 1) := by decide +kernel
theorem dX7_wearOfAll_28 : decode cX7_wearOfAll 28 = .ok (.ireturn, 1) := by decide +kernel
