theorem dJ7_fill_53178_0 : decode cJ7_fill_53178 0 = .ok (.iconst 0, 1) := by decide +kernel
theorem dJ7_fill_53178_1 : decode cJ7_fill_53178 1 = .ok (.istore_n 2, 1) := by decide +kernel
theorem dJ7_fill_53178_2 : decode cJ7_fill_53178 2 = .ok (.aload_n 0, 1) := by decide +kernel
theorem dJ7_fill_53178_3 : decode cJ7_fill_53178 3 = .ok (.arraylength, 1) := by decide +kernel
theorem dJ7_fill_53178_4 : decode cJ7_fill_53178 4 = .ok (.istore_n 3, 1) := by decide +kernel
theorem dJ7_fill_53178_5 : decode cJ7_fill_53178 5 = .ok (.iload_n 2, 1) := by decide +kernel
theorem dJ7_fill_53178_6 : decode cJ7_fill_53178 6 = .ok (.iload_n 3, 1) := by decide +kernel
theorem dJ7_fill_53178_7 : decode cJ7_fill_53178 7 = .ok (.if_icmp .ge 13, 3) := by decide +kernel
theorem dJ7_fill_53178_10 : decode cJ7_fill_53178 10 = .ok (.aload_n 0, 1) := by decide +kernel
theorem dJ7_fill_53178_11 : decode cJ7_fill_53178 11 = .ok (.iload_n 2, 1) := by decide +kernel
theorem dJ7_fill_53178_12 : decode cJ7_fill_53178 12 = .ok (.iload_n 1, 1) := by decide +kernel
theorem dJ7_fill_53178_13 : decode cJ7_fill_53178 13 = .ok (.iastore, 1) := by decide +kernel
theorem dJ7_fill_53178_14 : decode cJ7_fill_53178 14 = .ok (.iinc 2 1, 3) := by decide +kernel
theorem dJ7_fill_53178_17 : decode cJ7_fill_53178 17 = .ok (.goto (-12), 3) := by decide +kernel
theorem dJ7_fill_53178_20 : decode cJ7_fill_53178 20 = .ok (.return_, 1) := by decide +kernel
theorem dX0_init_0 : decode cX0_init 0 = .ok (.aload_n 0, 1) := by decide +kernel
theorem dX0_init_1 : decode cX0_init 1 = .ok (.invokespecial 3, 3) := by decide +kernel
theorem dX0_init_4 : decode cX0_init 4 = .ok (.aload_n 0, 1) := by decide +kernel
theorem dX0_init_5 : decode cX0_init 5 = .ok (.bipush 40, 2) := by decide +kernel
theorem dX0_init_7 : decode cX0_init 7 = .ok (.newarray .int, 2) := by decide +kernel
theorem dX0_init_9 : decode cX0_init 9 = .ok (.putfield 9, 3) := by decide +kernel
theorem dX0_init_12 : decode cX0_init 12 = .ok (.aload_n 0, 1) := by decide +kernel
theorem dX0_init_13 : decode cX0_init 13 = .ok (.bipush 40, 2) := by decide +kernel
theorem dX0_init_15 : decode cX0_init 15 = .ok (.newarray .int, 2) := by decide +kernel
theorem dX0_init_17 : decode cX0_init 17 = .ok (.putfield 15, 3) := by decide +kernel
theorem dX0_init_20 : decode cX0_init 20 = .ok (.aload_n 0, 1) := by decide +kernel
theorem dX0_init_21 : decode cX0_init 21 = .ok (.bipush 40, 2) := by decide +kernel
theorem dX0_init_23 : decode cX0_init 23 = .ok (.newarray .int, 2) := by decide +kernel
theorem dX0_init_25 : decode cX0_init 25 = .ok (.putfield 18, 3) := by decide +kernel
theorem dX0_init_28 : decode cX0_init 28 = .ok (.aload_n 0, 1) := by decide +kernel
theorem dX0_init_29 : decode cX0_init 29 = .ok (.bipush 10, 2) := by decide +kernel
theorem dX0_init_31 : decode cX0_init 31 = .ok (.newarray .int, 2) := by decide +kernel
theorem dX0_init_33 : decode cX0_init 33 = .ok (.putfield 21, 3) := by decide +kernel
theorem dX0_init_36 : decode cX0_init 36 = .ok (.aload_n 0, 1) := by decide +kernel
theorem dX0_init_37 : decode cX0_init 37 = .ok (.getfield 9, 3) := by decide +kernel
theorem dX0_init_40 : decode cX0_init 40 = .ok (.iconst (-1), 1) := by decide +kernel
theorem dX0_init_41 : decode cX0_init 41 = .ok (.invokestatic 24, 3) := by decide +kernel
theorem dX0_init_44 : decode cX0_init 44 = .ok (.aload_n 0, 1) := by decide +kernel
theorem dX0_init_45 : decode cX0_init 45 = .ok (.getfield 18, 3) := by decide +kernel
theorem dX0_init_48 : decode cX0_init 48 = .ok (.iconst (-1), 1) := by decide +kernel
theorem dX0_init_49 : decode cX0_init 49 = .ok (.invokestatic 24, 3) := by decide +kernel
theorem dX0_init_52 : decode cX0_init 52 = .ok (.aload_n 0, 1) := by decide +kernel
theorem dX0_init_53 : decode cX0_init 53 = .ok (.getfield 21, 3) := by decide +kernel
theorem dX0_init_56 : decode cX0_init 56 = .ok (.iconst (-1), 1) := by decide +kernel
theorem dX0_init_57 : decode cX0_init 57 = .ok (.invokestatic 24, 3) := by decide +kernel
theorem dX0_init_60 : decode cX0_init 60 = .ok (.return_, 1) := by decide +kernel
theorem dX10_init_0 : decode cX10_init 0 = .ok (.aload_n 0, 1) := by decide +kernel
theorem dX10_init_1 : decode cX10_init 1 = .ok (.invokespecial 3, 3) := by decide +kernel
theorem dX10_init_4 : decode cX10_init 4 = .ok (.aload_n 0, 1) := by decide +kernel
theorem dX10_init_5 : decode cX10_init 5 = .ok (.bipush 10, 2) := by decide +kernel
theorem dX10_init_7 : decode cX10_init 7 = .ok (.newarray .int, 2) := by decide +kernel
theorem dX10_init_9 : decode cX10_init 9 = .ok (.putfield 9, 3) := by decide +kernel
theorem dX10_init_12 : decode cX10_init 12 = .ok (.aload_n 0, 1) := by decide +kernel
theorem dX10_init_13 : decode cX10_init 13 = .ok (.bipush 40, 2) := by decide +kernel
theorem dX10_init_15 : decode cX10_init 15 = .ok (.newarray .int, 2) := by decide +kernel
theorem dX10_init_17 : decode cX10_init 17 = .ok (.putfield 15, 3) := by decide +kernel
theorem dX10_init_20 : decode cX10_init 20 = .ok (.aload_n 0, 1) := by decide +kernel
theorem dX10_init_21 : decode cX10_init 21 = .ok (.bipush 40, 2) := by decide +kernel
theorem dX10_init_23 : decode cX10_init 23 = .ok (.newarray .int, 2) := by decide +kernel
theorem dX10_init_25 : decode cX10_init 25 = .ok (.putfield 18, 3) := by decide +kernel
theorem dX10_init_28 : decode cX10_init 28 = .ok (.aload_n 0, 1) := by decide +kernel
theorem dX10_init_29 : decode cX10_init 29 = .ok (.bipush 16, 2) := by decide +kernel
theorem dX10_init_31 : decode cX10_init 31 = .ok (.newarray .int, 2) := by decide +kernel
theorem dX10_init_33 : decode cX10_init 33 = .ok (.putfield 21, 3) := by decide +kernel
theorem dX10_init_36 : decode cX10_init 36 = .ok (.aload_n 0, 1) := by decide +kernel
theorem dX10_init_37 : decode cX10_init 37 = .ok (.bipush 16, 2) := by decide +kernel
theorem dX10_init_39 : decode cX10_init 39 = .ok (.newarray .int, 2) := by decide +kernel
theorem dX10_init_41 : decode cX10_init 41 = .ok (.putfield 24, 3) := by decide +kernel
theorem dX10_init_44 : decode cX10_init 44 = .ok (.aload_n 0, 1) := by decide +kernel
theorem dX10_init_45 : decode cX10_init 45 = .ok (.bipush 16, 2) := by decide +kernel
theorem dX10_init_47 : decode cX10_init 47 = .ok (.newarray .boolean, 2) := by decide +kernel
theorem dX10_init_49 : decode cX10_init 49 = .ok (.putfield 27, 3) := by decide +kernel
theorem dX10_init_52 : decode cX10_init 52 = .ok (.aload_n 0, 1) := by decide +kernel
theorem dX10_init_53 : decode cX10_init 53 = .ok (.bipush 16, 2) := by decide +kernel
theorem dX10_init_55 : decode cX10_init 55 = .ok (.newarray .boolean, 2) := by decide +kernel
theorem dX10_init_57 : decode cX10_init 57 = .ok (.putfield 31, 3) := by decide +kernel
theorem dX10_init_60 : decode cX10_init 60 = .ok (.aload_n 0, 1) := by decide +kernel
theorem dX10_init_61 : decode cX10_init 61 = .ok (.bipush 10, 2) := by decide +kernel
theorem dX10_init_63 : decode cX10_init 63 = .ok (.newarray .int, 2) := by decide +kernel
theorem dX10_init_65 : decode cX10_init 65 = .ok (.putfield 34, 3) := by decide +kernel
theorem dX10_init_68 : decode cX10_init 68 = .ok (.aload_n 0, 1) := by decide +kernel
theorem dX10_init_69 : decode cX10_init 69 = .ok (.bipush 10, 2) := by decide +kernel
theorem dX10_init_71 : decode cX10_init 71 = .ok (.newarray .int, 2) := by decide +kernel
theorem dX10_init_73 : decode cX10_init 73 = .ok (.putfield 37, 3) := by decide +kernel
theorem dX10_init_76 : decode cX10_init 76 = .ok (.aload_n 0, 1) := by decide +kernel
theorem dX10_init_77 : decode cX10_init 77 = .ok (.getfield 15, 3) := by decide +kernel
theorem dX10_init_80 : decode cX10_init 80 = .ok (.iconst (-1), 1) := by decide +kernel
theorem dX10_init_81 : decode cX10_init 81 = .ok (.invokestatic 40, 3) := by decide +kernel
theorem dX10_init_84 : decode cX10_init 84 = .ok (.aload_n 0, 1) := by decide +kernel
theorem dX10_init_85 : decode cX10_init 85 = .ok (.getfield 18, 3) := by decide +kernel
theorem dX10_init_88 : decode cX10_init 88 = .ok (.iconst (-1), 1) := by decide +kernel
theorem dX10_init_89 : decode cX10_init 89 = .ok (.invokestatic 40, 3) := by decide +kernel
theorem dX10_init_92 : decode cX10_init 92 = .ok (.return_, 1) := by decide +kernel
theorem dX1_init_0 : decode cX1_init 0 = .ok (.aload_n 0, 1) := by decide +kernel
theorem dX1_init_1 : decode cX1_init 1 = .ok (.invokespecial 1, 3) := by decide +kernel
theorem dX1_init_4 : decode cX1_init 4 = .ok (.return_, 1) := by decide +kernel
theorem dX2_init_0 : decode cX2_init 0 = .ok (.aload_n 0, 1) := by decide +kernel
theorem dX2_init_1 : decode cX2_init 1 = .ok (.invokespecial 3, 3) := by decide +kernel
theorem dX2_init_4 : decode cX2_init 4 = .ok (.aload_n 0, 1) := by decide +kernel
theorem dX2_init_5 : decode cX2_init 5 = .ok (.sipush 2048, 3) := by decide +kernel
theorem dX2_init_8 : decode cX2_init 8 = .ok (.newarray .int, 2) := by decide +kernel
theorem dX2_init_10 : decode cX2_init 10 = .ok (.putfield 11, 3) := by decide +kernel
theorem dX2_init_13 : decode cX2_init 13 = .ok (.aload_n 0, 1) := by decide +kernel
theorem dX2_init_14 : decode cX2_init 14 = .ok (.sipush 2048, 3) := by decide +kernel
theorem dX2_init_17 : decode cX2_init 17 = .ok (.newarray .int, 2) := by decide +kernel
theorem dX2_init_19 : decode cX2_init 19 = .ok (.putfield 15, 3) := by decide +kernel
theorem dX2_init_22 : decode cX2_init 22 = .ok (.aload_n 0, 1) := by decide +kernel
theorem dX2_init_23 : decode cX2_init 23 = .ok (.getfield 11, 3) := by decide +kernel
theorem dX2_init_26 : decode cX2_init 26 = .ok (.iconst (-1), 1) := by decide +kernel
theorem dX2_init_27 : decode cX2_init 27 = .ok (.invokestatic 18, 3) := by decide +kernel
theorem dX2_init_30 : decode cX2_init 30 = .ok (.return_, 1) := by decide +kernel
theorem dX3_init_0 : decode cX3_init 0 = .ok (.aload_n 0, 1) := by decide +kernel
theorem dX3_init_1 : decode cX3_init 1 = .ok (.invokespecial 3, 3) := by decide +kernel
theorem dX3_init_4 : decode cX3_init 4 = .ok (.aload_n 0, 1) := by decide +kernel
theorem dX3_init_5 : decode cX3_init 5 = .ok (.iconst 4, 1) := by decide +kernel
theorem dX3_init_6 : decode cX3_init 6 = .ok (.newarray .int, 2) := by decide +kernel
theorem dX3_init_8 : decode cX3_init 8 = .ok (.putfield 9, 3) := by decide +kernel
theorem dX3_init_11 : decode cX3_init 11 = .ok (.aload_n 0, 1) := by decide +kernel
theorem dX3_init_12 : decode cX3_init 12 = .ok (.iconst 4, 1) := by decide +kernel
theorem dX3_init_13 : decode cX3_init 13 = .ok (.newarray .int, 2) := by decide +kernel
theorem dX3_init_15 : decode cX3_init 15 = .ok (.putfield 15, 3) := by decide +kernel
theorem dX3_init_18 : decode cX3_init 18 = .ok (.return_, 1) := by decide +kernel
theorem dX5_init_0 : decode cX5_init 0 = .ok (.aload_n 0, 1) := by decide +kernel
theorem dX5_init_1 : decode cX5_init 1 = .ok (.invokespecial 3, 3) := by decide +kernel
theorem dX5_init_4 : decode cX5_init 4 = .ok (.aload_n 0, 1) := by decide +kernel
theorem dX5_init_5 : decode cX5_init 5 = .ok (.bipush 6, 2) := by decide +kernel
theorem dX5_init_7 : decode cX5_init 7 = .ok (.newarray .int, 2) := by decide +kernel
theorem dX5_init_9 : decode cX5_init 9 = .ok (.putfield 9, 3) := by decide +kernel
theorem dX5_init_12 : decode cX5_init 12 = .ok (.aload_n 0, 1) := by decide +kernel
theorem dX5_init_13 : decode cX5_init 13 = .ok (.bipush 6, 2) := by decide +kernel
theorem dX5_init_15 : decode cX5_init 15 = .ok (.newarray .int, 2) := by decide +kernel
theorem dX5_init_17 : decode cX5_init 17 = .ok (.putfield 15, 3) := by decide +kernel
theorem dX5_init_20 : decode cX5_init 20 = .ok (.aload_n 0, 1) := by decide +kernel
theorem dX5_init_21 : decode cX5_init 21 = .ok (.bipush 6, 2) := by decide +kernel
theorem dX5_init_23 : decode cX5_init 23 = .ok (.newarray .int, 2) := by decide +kernel
theorem dX5_init_25 : decode cX5_init 25 = .ok (.putfield 18, 3) := by decide +kernel
theorem dX5_init_28 : decode cX5_init 28 = .ok (.aload_n 0, 1) := by decide +kernel
theorem dX5_init_29 : decode cX5_init 29 = .ok (.bipush 8, 2) := by decide +kernel
theorem dX5_init_31 : decode cX5_init 31 = .ok (.newarray .int, 2) := by decide +kernel
theorem dX5_init_33 : decode cX5_init 33 = .ok (.putfield 21, 3) := by decide +kernel
theorem dX5_init_36 : decode cX5_init 36 = .ok (.aload_n 0, 1) := by decide +kernel
theorem dX5_init_37 : decode cX5_init 37 = .ok (.bipush 8, 2) := by decide +kernel
theorem dX5_init_39 : decode cX5_init 39 = .ok (.newarray .int, 2) := by decide +kernel
theorem dX5_init_41 : decode cX5_init 41 = .ok (.putfield 24, 3) := by decide +kernel
theorem dX5_init_44 : decode cX5_init 44 = .ok (.aload_n 0, 1) := by decide +kernel
theorem dX5_init_45 : decode cX5_init 45 = .ok (.bipush 8, 2) := by decide +kernel
theorem dX5_init_47 : decode cX5_init 47 = .ok (.newarray .int, 2) := by decide +kernel
theorem dX5_init_49 : decode cX5_init 49 = .ok (.putfield 27, 3) := by decide +kernel
theorem dX5_init_52 : decode cX5_init 52 = .ok (.aload_n 0, 1) := by decide +kernel
theorem dX5_init_53 : decode cX5_init 53 = .ok (.bipush 8, 2) := by decide +kernel
theorem dX5_init_55 : decode cX5_init 55 = .ok (.newarray .int, 2) := by decide +kernel
theorem dX5_init_57 : decode cX5_init 57 = .ok (.putfield 30, 3) := by decide +kernel
theorem dX5_init_60 : decode cX5_init 60 = .ok (.aload_n 0, 1) := by decide +kernel
theorem dX5_init_61 : decode cX5_init 61 = .ok (.bipush 8, 2) := by decide +kernel
theorem dX5_init_63 : decode cX5_init 63 = .ok (.newarray .int, 2) := by decide +kernel
theorem dX5_init_65 : decode cX5_init 65 = .ok (.putfield 33, 3) := by decide +kernel
theorem dX5_init_68 : decode cX5_init 68 = .ok (.aload_n 0, 1) := by decide +kernel
theorem dX5_init_69 : decode cX5_init 69 = .ok (.bipush 8, 2) := by decide +kernel
theorem dX5_init_71 : decode cX5_init 71 = .ok (.newarray .boolean, 2) := by decide +kernel
theorem dX5_init_73 : decode cX5_init 73 = .ok (.putfield 36, 3) := by decide +kernel
theorem dX5_init_76 : decode cX5_init 76 = .ok (.aload_n 0, 1) := by decide +kernel
theorem dX5_init_77 : decode cX5_init 77 = .ok (.iconst 3, 1) := by decide +kernel
theorem dX5_init_78 : decode cX5_init 78 = .ok (.anewarray 40, 3) := by decide +kernel
theorem dX5_init_81 : decode cX5_init 81 = .ok (.putfield 42, 3) := by decide +kernel
theorem dX5_init_84 : decode cX5_init 84 = .ok (.iconst 0, 1) := by decide +kernel
theorem dX5_init_85 : decode cX5_init 85 = .ok (.istore_n 1, 1) := by decide +kernel
theorem dX5_init_86 : decode cX5_init 86 = .ok (.iload_n 1, 1) := by decide +kernel
theorem dX5_init_87 : decode cX5_init 87 = .ok (.iconst 3, 1) := by decide +kernel
theorem dX5_init_88 : decode cX5_init 88 = .ok (.if_icmp .ge 22, 3) := by decide +kernel
theorem dX5_init_91 : decode cX5_init 91 = .ok (.aload_n 0, 1) := by decide +kernel
theorem dX5_init_92 : decode cX5_init 92 = .ok (.getfield 42, 3) := by decide +kernel
theorem dX5_init_95 : decode cX5_init 95 = .ok (.iload_n 1, 1) := by decide +kernel
theorem dX5_init_96 : decode cX5_init 96 = .ok (.new 40, 3) := by decide +kernel
theorem dX5_init_99 : decode cX5_init 99 = .ok (.dup, 1) := by decide +kernel
theorem dX5_init_100 : decode cX5_init 100 = .ok (.invokespecial 46, 3) := by decide +kernel
theorem dX5_init_103 : decode cX5_init 103 = .ok (.aastore, 1) := by decide +kernel
theorem dX5_init_104 : decode cX5_init 104 = .ok (.iinc 1 1, 3) := by decide +kernel
theorem dX5_init_107 : decode cX5_init 107 = .ok (.goto (-21), 3) := by decide +kernel
theorem dX5_init_110 : decode cX5_init 110 = .ok (.return_, 1) := by decide +kernel
theorem dX7_init_0 : decode cX7_init 0 = .ok (.aload_n 0, 1) := by decide +kernel
theorem dX7_init_1 : decode cX7_init 1 = .ok (.invokespecial 3, 3) := by decide +kernel
theorem dX7_init_4 : decode cX7_init 4 = .ok (.aload_n 0, 1) := by decide +kernel
theorem dX7_init_5 : decode cX7_init 5 = .ok (.aload_n 1, 1) := by decide +kernel
theorem dX7_init_6 : decode cX7_init 6 = .ok (.putfield 9, 3) := by decide +kernel
theorem dX7_init_9 : decode cX7_init 9 = .ok (.aload_n 0, 1) := by decide +kernel
theorem dX7_init_10 : decode cX7_init 10 = .ok (.bipush 40, 2) := by decide +kernel
theorem dX7_init_12 : decode cX7_init 12 = .ok (.newarray .int, 2) := by decide +kernel
theorem dX7_init_14 : decode cX7_init 14 = .ok (.putfield 15, 3) := by decide +kernel
theorem dX7_init_17 : decode cX7_init 17 = .ok (.aload_n 0, 1) := by decide +kernel
theorem dX7_init_18 : decode cX7_init 18 = .ok (.bipush 40, 2) := by decide +kernel
theorem dX7_init_20 : decode cX7_init 20 = .ok (.newarray .long, 2) := by decide +kernel
theorem dX7_init_22 : decode cX7_init 22 = .ok (.putfield 19, 3) := by decide +kernel
theorem dX7_init_25 : decode cX7_init 25 = .ok (.aload_n 0, 1) := by decide +kernel
theorem dX7_init_26 : decode cX7_init 26 = .ok (.bipush 10, 2) := by decide +kernel
theorem dX7_init_28 : decode cX7_init 28 = .ok (.newarray .int, 2) := by decide +kernel
theorem dX7_init_30 : decode cX7_init 30 = .ok (.putfield 23, 3) := by decide +kernel
theorem dX7_init_33 : decode cX7_init 33 = .ok (.aload_n 0, 1) := by decide +kernel
theorem dX7_init_34 : decode cX7_init 34 = .ok (.bipush 10, 2) := by decide +kernel
theorem dX7_init_36 : decode cX7_init 36 = .ok (.newarray .int, 2) := by decide +kernel
theorem dX7_init_38 : decode cX7_init 38 = .ok (.putfield 26, 3) := by decide +kernel
theorem dX7_init_41 : decode cX7_init 41 = .ok (.return_, 1) := by decide +kernel
theorem dX8_init_0 : decode cX8_init 0 = .ok (.aload_n 0, 1) := by decide +kernel
theorem dX8_init_1 : decode cX8_init 1 = .ok (.invokespecial 3, 3) := by decide +kernel
theorem dX8_init_4 : decode cX8_init 4 = .ok (.aload_n 0, 1) := by decide +kernel
theorem dX8_init_5 : decode cX8_init 5 = .ok (.bipush 10, 2) := by decide +kernel
theorem dX8_init_7 : decode cX8_init 7 = .ok (.bipush 126, 2) := by decide +kernel
theorem dX8_init_9 : decode cX8_init 9 = .ok (.multianewarray 9 2, 4) := by decide +kernel
theorem dX8_init_13 : decode cX8_init 13 = .ok (.putfield 11, 3) := by decide +kernel
theorem dX8_init_16 : decode cX8_init 16 = .ok (.aload_n 0, 1) := by decide +kernel
theorem dX8_init_17 : decode cX8_init 17 = .ok (.bipush 10, 2) := by decide +kernel
theorem dX8_init_19 : decode cX8_init 19 = .ok (.bipush 126, 2) := by decide +kernel
theorem dX8_init_21 : decode cX8_init 21 = .ok (.multianewarray 9 2, 4) := by decide +kernel
theorem dX8_init_25 : decode cX8_init 25 = .ok (.putfield 16, 3) := by decide +kernel
theorem dX8_init_28 : decode cX8_init 28 = .ok (.aload_n 0, 1) := by decide +kernel
theorem dX8_init_29 : decode cX8_init 29 = .ok (.bipush 10, 2) := by decide +kernel
theorem dX8_init_31 : decode cX8_init 31 = .ok (.newarray .int, 2) := by decide +kernel
theorem dX8_init_33 : decode cX8_init 33 = .ok (.putfield 19, 3) := by decide +kernel
theorem dX8_init_36 : decode cX8_init 36 = .ok (.return_, 1) := by decide +kernel
theorem u_3 : Cond.initialized RJ7 ∈ gU := gm (i := 3) (by decide +kernel) (by decide +kernel)
theorem u_7 : Cond.initialized RX3 ∈ gU := gm (i := 7) (by decide +kernel) (by decide +kernel)
theorem u_29 : Cond.instanceMethod objectInit ∈ gU := gm (i := 29) (by decide +kernel) (by decide +kernel)
theorem u_30 : Cond.code objectInit ⟨#[0xb1]⟩ 1 none ∈ gU := gm (i := 30) (by decide +kernel) (by decide +kernel)
theorem u_36 : Cond.methodLink RX10 3 objectInit ∈ gU := gm (i := 36) (by decide +kernel) (by decide +kernel)
theorem u_37 : Cond.methodLink RX10 40 yJ7_fill_53178 ∈ gU := gm (i := 37) (by decide +kernel) (by decide +kernel)
theorem u_38 : Cond.static yJ7_fill_53178 ∈ gU := gm (i := 38) (by decide +kernel) (by decide +kernel)
theorem u_39 : Cond.code yJ7_fill_53178 cJ7_fill_53178 4 none ∈ gU := gm (i := 39) (by decide +kernel) (by decide +kernel)
theorem u_44 : Cond.fieldLink RX10 9 "DrystoneSimnet$Wiring" "kinds" "[I" ∈ gU := gm (i := 44) (by decide +kernel) (by decide +kernel)
theorem u_45 : Cond.fieldLink RX10 15 "DrystoneSimnet$Wiring" "cableAt" "[I" ∈ gU := gm (i := 45) (by decide +kernel) (by decide +kernel)
theorem u_46 : Cond.fieldLink RX10 18 "DrystoneSimnet$Wiring" "across" "[I" ∈ gU := gm (i := 46) (by decide +kernel) (by decide +kernel)
theorem u_49 : Cond.fieldLink RX10 21 "DrystoneSimnet$Wiring" "oneEnd" "[I" ∈ gU := gm (i := 49) (by decide +kernel) (by decide +kernel)
theorem u_50 : Cond.fieldLink RX10 24 "DrystoneSimnet$Wiring" "otherEnd" "[I" ∈ gU := gm (i := 50) (by decide +kernel) (by decide +kernel)
theorem u_51 : Cond.fieldLink RX10 27 "DrystoneSimnet$Wiring" "broken" "[Z" ∈ gU := gm (i := 51) (by decide +kernel) (by decide +kernel)
theorem u_53 : Cond.fieldLink RX10 31 "DrystoneSimnet$Wiring" "blocked" "[Z" ∈ gU := gm (i := 53) (by decide +kernel) (by decide +kernel)
theorem u_55 : Cond.fieldLink RX10 34 "DrystoneSimnet$Wiring" "distance" "[I" ∈ gU := gm (i := 55) (by decide +kernel) (by decide +kernel)
theorem u_56 : Cond.fieldLink RX10 37 "DrystoneSimnet$Wiring" "towardsRoot" "[I" ∈ gU := gm (i := 56) (by decide +kernel) (by decide +kernel)
theorem u_80 : Cond.arrayClass .int ∈ gU := gm (i := 80) (by decide +kernel) (by decide +kernel)
theorem u_81 : Cond.arrayClass .boolean ∈ gU := gm (i := 81) (by decide +kernel) (by decide +kernel)
theorem u_87 : Cond.methodLink RX7 3 objectInit ∈ gU := gm (i := 87) (by decide +kernel) (by decide +kernel)
theorem u_88 : Cond.fieldLink RX7 9 "DrystoneSimnet$Sight" "wiring" "LDrystoneSimnet$Wiring;" ∈ gU := gm (i := 88) (by decide +kernel) (by decide +kernel)
theorem u_89 : Cond.fieldLink RX7 15 "DrystoneSimnet$Sight" "nets" "[I" ∈ gU := gm (i := 89) (by decide +kernel) (by decide +kernel)
theorem u_91 : Cond.fieldLink RX7 19 "DrystoneSimnet$Sight" "seen" "[J" ∈ gU := gm (i := 91) (by decide +kernel) (by decide +kernel)
theorem u_94 : Cond.fieldLink RX7 23 "DrystoneSimnet$Sight" "floodedPorts" "[I" ∈ gU := gm (i := 94) (by decide +kernel) (by decide +kernel)
theorem u_95 : Cond.fieldLink RX7 26 "DrystoneSimnet$Sight" "floodedTags" "[I" ∈ gU := gm (i := 95) (by decide +kernel) (by decide +kernel)
theorem u_109 : Cond.arrayClass .long ∈ gU := gm (i := 109) (by decide +kernel) (by decide +kernel)
theorem u_115 : Cond.methodLink RX0 3 objectInit ∈ gU := gm (i := 115) (by decide +kernel) (by decide +kernel)
theorem u_116 : Cond.methodLink RX0 24 yJ7_fill_53178 ∈ gU := gm (i := 116) (by decide +kernel) (by decide +kernel)
theorem u_117 : Cond.fieldLink RX0 9 "DrystoneSimnet$Addresses" "given" "[I" ∈ gU := gm (i := 117) (by decide +kernel) (by decide +kernel)
theorem u_121 : Cond.fieldLink RX0 15 "DrystoneSimnet$Addresses" "lengths" "[I" ∈ gU := gm (i := 121) (by decide +kernel) (by decide +kernel)
theorem u_124 : Cond.fieldLink RX0 18 "DrystoneSimnet$Addresses" "prefixes" "[I" ∈ gU := gm (i := 124) (by decide +kernel) (by decide +kernel)
theorem u_126 : Cond.fieldLink RX0 21 "DrystoneSimnet$Addresses" "gateways" "[I" ∈ gU := gm (i := 126) (by decide +kernel) (by decide +kernel)
theorem u_145 : Cond.methodLink RX5 3 objectInit ∈ gU := gm (i := 145) (by decide +kernel) (by decide +kernel)
theorem u_146 : Cond.classLink RX5 40 RX3 ∈ gU := gm (i := 146) (by decide +kernel) (by decide +kernel)
theorem u_148 : Cond.instantiable RX3 4 ∈ gU := gm (i := 148) (by decide +kernel) (by decide +kernel)
theorem u_149 : Cond.methodLink RX5 46 yX3_init ∈ gU := gm (i := 149) (by decide +kernel) (by decide +kernel)
theorem u_150 : Cond.instanceMethod yX3_init ∈ gU := gm (i := 150) (by decide +kernel) (by decide +kernel)
theorem u_151 : Cond.code yX3_init cX3_init 1 none ∈ gU := gm (i := 151) (by decide +kernel) (by decide +kernel)
theorem u_152 : Cond.methodLink RX3 3 objectInit ∈ gU := gm (i := 152) (by decide +kernel) (by decide +kernel)
theorem u_155 : Cond.fieldLink RX3 9 "DrystoneSimnet$Pool" "holders" "[I" ∈ gU := gm (i := 155) (by decide +kernel) (by decide +kernel)
theorem u_156 : Cond.fieldLink RX3 15 "DrystoneSimnet$Pool" "usedAt" "[I" ∈ gU := gm (i := 156) (by decide +kernel) (by decide +kernel)
theorem u_168 : Cond.fieldLink RX5 9 "DrystoneSimnet$Route\x72" "toldPrefix" "[I" ∈ gU := gm (i := 168) (by decide +kernel) (by decide +kernel)
theorem u_170 : Cond.fieldLink RX5 15 "DrystoneSimnet$Route\x72" "toldLength" "[I" ∈ gU := gm (i := 170) (by decide +kernel) (by decide +kernel)
theorem u_173 : Cond.fieldLink RX5 18 "DrystoneSimnet$Route\x72" "toldNext" "[I" ∈ gU := gm (i := 173) (by decide +kernel) (by decide +kernel)
theorem u_178 : Cond.fieldLink RX5 21 "DrystoneSimnet$Route\x72" "ruleSource" "[I" ∈ gU := gm (i := 178) (by decide +kernel) (by decide +kernel)
theorem u_180 : Cond.fieldLink RX5 24 "DrystoneSimnet$Route\x72" "ruleLength" "[I" ∈ gU := gm (i := 180) (by decide +kernel) (by decide +kernel)
theorem u_182 : Cond.fieldLink RX5 27 "DrystoneSimnet$Route\x72" "ruleDest" "[I" ∈ gU := gm (i := 182) (by decide +kernel) (by decide +kernel)
theorem u_184 : Cond.fieldLink RX5 30 "DrystoneSimnet$Route\x72" "ruleFa\x72" "[I" ∈ gU := gm (i := 184) (by decide +kernel) (by decide +kernel)
theorem u_186 : Cond.fieldLink RX5 33 "DrystoneSimnet$Route\x72" "ruleService" "[I" ∈ gU := gm (i := 186) (by decide +kernel) (by decide +kernel)
theorem u_188 : Cond.fieldLink RX5 36 "DrystoneSimnet$Route\x72" "rulePasses" "[Z" ∈ gU := gm (i := 188) (by decide +kernel) (by decide +kernel)
theorem u_194 : Cond.fieldLink RX5 42 "DrystoneSimnet$Route\x72" "pools" "[LDrystoneSimnet$Pool;" ∈ gU := gm (i := 194) (by decide +kernel) (by decide +kernel)
theorem u_238 : Cond.methodLink RX8 3 objectInit ∈ gU := gm (i := 238) (by decide +kernel) (by decide +kernel)
theorem u_239 : Cond.classLink RX8 9 "[[I" ∈ gU := gm (i := 239) (by decide +kernel) (by decide +kernel)
theorem u_241 : Cond.fieldLink RX8 11 "DrystoneSimnet$Tables" "entries" "[[I" ∈ gU := gm (i := 241) (by decide +kernel) (by decide +kernel)
theorem u_244 : Cond.fieldLink RX8 16 "DrystoneSimnet$Tables" "known" "[[I" ∈ gU := gm (i := 244) (by decide +kernel) (by decide +kernel)
theorem u_247 : Cond.fieldLink RX8 19 "DrystoneSimnet$Tables" "counts" "[I" ∈ gU := gm (i := 247) (by decide +kernel) (by decide +kernel)
theorem u_298 : Cond.methodLink RX2 3 objectInit ∈ gU := gm (i := 298) (by decide +kernel) (by decide +kernel)
theorem u_299 : Cond.methodLink RX2 18 yJ7_fill_53178 ∈ gU := gm (i := 299) (by decide +kernel) (by decide +kernel)
theorem u_300 : Cond.fieldLink RX2 11 "DrystoneSimnet$Notes" "headers" "[I" ∈ gU := gm (i := 300) (by decide +kernel) (by decide +kernel)
theorem u_301 : Cond.fieldLink RX2 15 "DrystoneSimnet$Notes" "ticks" "[I" ∈ gU := gm (i := 301) (by decide +kernel) (by decide +kernel)
theorem u_316 : Cond.methodLink RX1 1 objectInit ∈ gU := gm (i := 316) (by decide +kernel) (by decide +kernel)
theorem gX0 : ∀ w ∈ u_ws RX0 TX0 4, w ∈ gU := gIn [130, 132, 134, 136] (by decide +kernel) (by decide +kernel)
theorem gX2 : ∀ w ∈ u_ws RX2 TX2 3, w ∈ gU := gIn [303, 305, 307] (by decide +kernel) (by decide +kernel)
theorem gX3 : ∀ w ∈ u_ws RX3 TX3 4, w ∈ gU := gIn [157, 159, 161, 163] (by decide +kernel) (by decide +kernel)
theorem gX5 : ∀ w ∈ u_ws RX5 TX5 14, w ∈ gU := gIn [198, 200, 202, 204, 206, 208, 210, 212, 214, 216, 218, 220, 222, 224] (by decide +kernel) (by decide +kernel)
theorem gX7 : ∀ w ∈ u_ws RX7 TX7 6, w ∈ gU := gIn [96, 98, 100, 102, 104, 106] (by decide +kernel) (by decide +kernel)
theorem gX8 : ∀ w ∈ u_ws RX8 TX8 3, w ∈ gU := gIn [250, 252, 254] (by decide +kernel) (by decide +kernel)
set_option maxHeartbeats 4000000 in
set_option maxRecDepth 100000 in
theorem lp_fill {p : Program} {l : Launch} {e : Env} {R : Room} {s : State} {m : MethodId} {args : Array Value} {below : List Frame} {meth : Method} {c : Code} {Q : State → Prop} {dC : Nat → ClassId} {dI : Nat → Nat → Nat} {A : Nat → Prop} {cells slots : Nat} {h0 : Nat} {v : Int32} {cA : ClassId} {N : Nat} (hN : N < 2 ^ 31) (hx : p.tables.exec = Jvm.exec) (hb : c.code = cJ7_fill_53178) (hml : c.maxLocals = 4) (hown : s.vm.findClass RJ7 = some m.cls) (hts : ∀ w ∈ gU, w.before args s = true) (hE : gEnv s) (hA : ∀ q : Nat, s.heap.size ≤ q → A q) (hK : va_K (dC, dI) vwCl [(cA, .int)] s)  
    (kk : ∀ (f : Nat → Int32), ∀ (H : Heap) (locs : List Loc), va_P (dC, dI) vwCl [(h0, .inl (cA, N, .inl f))] H → va_D A [(h0, .inl (cA, N, .inl f))] → va_S A s.heap H locs → ∀ ls : Array Slot, lv_has ls 4 [(0, .ref h0), (1, .int v), (2, .int (nI N)), (3, .int (nI N))] → W p l e R s m args below meth c H locs cells slots Q (F0 m 20 ls [])) :
    ∀ (n i : Nat) (x : Int32) (f : Nat → Int32), i ≤ N → N + 1 ≤ i + n → x = nI i → ∀ (H : Heap) (locs : List Loc), va_P (dC, dI) vwCl [(h0, .inl (cA, N, .inl f))] H → va_D A [(h0, .inl (cA, N, .inl f))] → va_S A s.heap H locs → ∀ ls : Array Slot, lv_has ls 4 [(0, .ref h0), (1, .int v), (2, .int x), (3, .int (nI N))] → W p l e R s m args below meth c H locs cells slots Q (F0 m 5 ls []) := by
  intro n
  induction n with
  | zero => intro i x f h1 h2; exact absurd h2 (by omega)
  | succ n ih =>
    intro i x f hi hin ex   H locs hP hD hS ls hl
    refine lv_iload_n hx hb dJ7_fill_53178_5 rfl (lv_at hl 2 rfl) ?_
    refine lv_iload_n hx hb dJ7_fill_53178_6 rfl (lv_at hl 3 rfl) ?_
    refine lv_icmp_ge (tgt := 20) hx hb dJ7_fill_53178_7 (by decide) (fun c9 => ?_) (fun c9 => ?_)
    · have hiN := lpE (N := N) ex (by omega) hi c9
      subst hiN
      subst ex
      exact kk f   _ _ hP hD hS ls hl
    · have hiL := lpL (N := N) ex hi (by omega) c9
      refine lv_aload_n hx hb dJ7_fill_53178_10 rfl (lv_at hl 0 rfl) ?_
      refine lv_iload_n hx hb dJ7_fill_53178_11 rfl (lv_at hl 2 rfl) ?_
      refine lv_iload_n hx hb dJ7_fill_53178_12 rfl (lv_at hl 1 rfl) ?_
      refine va_iast hx hb hK hP hD hS 0 0 rfl rfl (by rw [ex]; exact vp_in_nI (by omega) (by omega)) dJ7_fill_53178_13 (fun H238 locs hP hD hS => ?_)
      generalize hff239 : upd f (x).toNatClampNeg v = f239 at hP hD
      have hP : va_P (dC, dI) vwCl [(h0, .inl (cA, N, .inl f239))] H238 := hP
      have hD : va_D A [(h0, .inl (cA, N, .inl f239))] := hD
      obtain ⟨x240, ex240⟩ : ∃ y : Int32, y = x + 1 := ⟨_, rfl⟩
      refine lv_iinc (v := x240) (lv' := [(2, .int x240), (0, .ref h0), (1, .int v), (3, .int (nI N))]) hx hb dJ7_fill_53178_14 hl (k := 2) rfl (by rw [ex240]; rfl) (by decide) rfl (fun ls hl => ?_)
      refine lv_goto (tgt := 5) hx hb dJ7_fill_53178_17 (by decide) ?_
      exact ih (i + 1) x240 f239 hiL (by omega) (by rw [ex240, ex]; exact nI_1 i)   _ _ hP hD hS ls (lv_sub hl [1, 2, 0, 3] rfl)
set_option maxHeartbeats 4000000 in
set_option maxRecDepth 100000 in
theorem c_J7_fill_53178 (l : Launch) (dC : Nat → ClassId) (dI : Nat → Nat → Nat) (sz : Nat) (h0 : Nat) (cA : ClassId) (N : Nat) (hN : N < 2 ^ 31) (f : Nat → Int32) (v : Int32) : Met l yJ7_fill_53178 (Cond.code yJ7_fill_53178 cJ7_fill_53178 4 none :: gU) ({ frames := 0, cells := 0, slots := 0, locals := 0 }) (gP dC dI sz [(h0, .inl (cA, N, .inl f))] [(cA, .int)] [.ref h0, .int v]) (va_Qv (fun (_ : Unit) => True) (fun (_ : Unit) (t9 : State) => ∃ (f2 : Nat → Int32), va_P (dC, dI) vwCl [(h0, .inl (cA, N, .inl f2))] t9.heap ∧ va_K (dC, dI) vwCl [(cA, .int)] t9 ∧ va_D (va_A [(h0, .inl (cA, N, .inl f))] sz) [(h0, .inl (cA, N, .inl f2))]) (va_A [(h0, .inl (cA, N, .inl f))] sz)) 0 0 (va_A [(h0, .inl (cA, N, .inl f))] sz) := by
  refine Met.ofW (cc := cJ7_fill_53178) (maxL := 4) (ret := none) (by decide) rfl ?_
  intro p e s m args below meth c s₁ B hml hv
  obtain ⟨rfl, hsz, hP, hK, hD0, hE⟩ := hv
  have hx := B.exec
  have hb := B.bytes
  have hr := B.returns
  have hts0 := atoms_spec (ws := Cond.code yJ7_fill_53178 cJ7_fill_53178 4 none :: gU) B.pre
  have hts : ∀ w ∈ gU, w.before _ s = true := fun w h => hts0 w (List.mem_cons_of_mem _ h)
  have hown : s.vm.findClass RJ7 = some m.cls := findClass_of_methodNamed B.named
  have hlocks := B.notSynchronized
  subst hsz
  have hD := hD0.self (sz := s.heap.size)
  generalize hAe : va_A [(h0, .inl (cA, N, .inl f))] s.heap.size = A at hD ⊢
  have hA : ∀ q : Nat, s.heap.size ≤ q → A q := fun q h => by rw [← hAe]; exact Or.inr h
  have hS : va_S A s.heap s.heap [] := va_S.rf
  have hP : va_P (dC, dI) vwCl [(h0, .inl (cA, N, .inl f))] s.heap := hP
  have hl := lv_entry ([.ref h0, .int v]) (n := 4) (Nat.le_of_ble_eq_true rfl)
  rw [lg_entry_eq]
  generalize (lg_sl ([.ref h0, .int v]) ++ List.replicate (4 - (lg_sl ([.ref h0, .int v])).length) Slot.unset).toArray = ls at hl ⊢
  have hl : lv_has ls 4 [(0, .ref h0), (1, .int v)] := hl
  refine lv_iconst (v := 0) hx hb dJ7_fill_53178_0 (by decide) ?_
  refine lv_istore_n (lv' := [(2, .int 0), (0, .ref h0), (1, .int v)]) hx hb dJ7_fill_53178_1 rfl hl (by decide) rfl (fun ls hl => ?_)
  refine lv_aload_n hx hb dJ7_fill_53178_2 rfl (lv_at hl 1 rfl) ?_
  refine va_alen (v := nI N) hx hb hK hP 0 0 rfl rfl rfl dJ7_fill_53178_3 ?_
  refine lv_istore_n (lv' := [(3, .int (nI N)), (2, .int 0), (0, .ref h0), (1, .int v)]) hx hb dJ7_fill_53178_4 rfl hl (by decide) rfl (fun ls hl => ?_)
  refine lp_fill hN hx hb hml hown hts hE hA hK (fun f2 H locs hP hD hS ls hl => ?_) (N + 1) 0 0 f (Nat.zero_le N) (by omega) nI_0.symm _ _ hP hD hS ls (lv_sub hl [2, 3, 1, 0] rfl)
  refine W.widen (k := 0) (n := 0) (Nat.le_of_ble_eq_true rfl) (Nat.le_of_ble_eq_true rfl) ?_
  exact W.vret hx hb hr (fun t ht hW => ⟨⟨(), rfl, trivial, ⟨f2, by rw [ht]; exact hP, va_K.moved hW.alike hK, hD⟩⟩, hS.F ht⟩) hS.2.2 dJ7_fill_53178_20
set_option maxHeartbeats 4000000 in
set_option maxRecDepth 100000 in
theorem c_X10_init (l : Launch) (dC : Nat → ClassId) (dI : Nat → Nat → Nat) (sz : Nat) (h0 : Nat) : Met l yX10_init (Cond.code yX10_init cX10_init 1 none :: gU) ({ frames := 1, cells := 9, slots := 174, locals := 23 }) (gP dC dI sz [(h0, .inr (10, [.int 0, .int 0, .null, .null, .null, .null, .null, .null, .null, .null, .null]))] [] [.ref h0]) (va_Qv (fun (_ : Unit) => True) (fun (_ : Unit) (t9 : State) => ∃ (kd : Nat), ∃ (cK : ClassId), ∃ (gW : Nat → Nat), va_P (dC, dI) vwCl [(h0, .inr (10, oW kd gW 0 0)), (kd, .inl (cK, 10, .inl (fun _ => 0)))] t9.heap ∧ va_K (dC, dI) vwCl [(cK, .int)] t9 ∧ va_D (va_A [(h0, .inr (10, [.int 0, .int 0, .null, .null, .null, .null, .null, .null, .null, .null, .null]))] sz) [(h0, .inr (10, oW kd gW 0 0)), (kd, .inl (cK, 10, .inl (fun _ => 0)))]) (va_A [(h0, .inr (10, [.int 0, .int 0, .null, .null, .null, .null, .null, .null, .null, .null, .null]))] sz)) 9 174 (va_A [(h0, .inr (10, [.int 0, .int 0, .null, .null, .null, .null, .null, .null, .null, .null, .null]))] sz) := by
  refine Met.ofW (cc := cX10_init) (maxL := 1) (ret := none) (by decide) rfl ?_
  intro p e s m args below meth c s₁ B hml hv
  obtain ⟨rfl, hsz, hP, hK, hD0, hE⟩ := hv
  have hx := B.exec
  have hb := B.bytes
  have hr := B.returns
  have hts0 := atoms_spec (ws := Cond.code yX10_init cX10_init 1 none :: gU) B.pre
  have hts : ∀ w ∈ gU, w.before _ s = true := fun w h => hts0 w (List.mem_cons_of_mem _ h)
  have hown : s.vm.findClass RX10 = some m.cls := findClass_of_methodNamed B.named
  have hlocks := B.notSynchronized
  have hin : meth.name = "<init>" := (name_of_methodNamed B.named B.method).1
  subst hsz
  have hD := hD0.self (sz := s.heap.size)
  generalize hAe : va_A [(h0, .inr (10, [.int 0, .int 0, .null, .null, .null, .null, .null, .null, .null, .null, .null]))] s.heap.size = A at hD ⊢
  have hA : ∀ q : Nat, s.heap.size ≤ q → A q := fun q h => by rw [← hAe]; exact Or.inr h
  have hS : va_S A s.heap s.heap [] := va_S.rf
  have hP : va_P (dC, dI) vwCl [(h0, .inr (10, [.int 0, .int 0, .null, .null, .null, .null, .null, .null, .null, .null, .null]))] s.heap := hP
  have hl := lv_entry ([.ref h0]) (n := 1) (Nat.le_of_ble_eq_true rfl)
  rw [lg_entry_eq]
  generalize (lg_sl ([.ref h0]) ++ List.replicate (1 - (lg_sl ([.ref h0])).length) Slot.unset).toArray = ls at hl ⊢
  have hl : lv_has ls 1 [(0, .ref h0)] := hl
  refine lv_aload_n hx hb dX10_init_0 rfl (lv_at hl 0 rfl) ?_
  refine W.objInit hx hb hown (hts _ u_36) (hts _ u_29) (hts _ u_30) rfl (by rw [hml]; exact hl.1) rfl dX10_init_1 (Nat.le_of_ble_eq_true rfl) (Nat.le_of_ble_eq_true rfl) ?_
  refine W.eq (g2 := F0 m 4 ls []) rfl ?_
  refine lv_aload_n hx hb dX10_init_4 rfl (lv_at hl 0 rfl) ?_
  refine lv_bipush (v := 10) hx hb dX10_init_5 (by decide) ?_
  refine va_newa (atype := .int) (ty := .int) (N' := 10) (a0 := (10, .inl (fun _ => 0))) hx hb (hts _ u_80) rfl hK hP hD hS hA (fun _ => rfl) (by decide) (by decide) (Nat.le_of_ble_eq_true rfl) (Nat.le_of_ble_eq_true rfl) (Nat.le_of_ble_eq_true rfl) dX10_init_7 (fun q241 cA242 H243 hK hP hD hS => ?_)
  refine W.widen (k := 1) (n := 10) (Nat.le_of_ble_eq_true rfl) (Nat.le_of_ble_eq_true rfl) ?_
  have hK : va_K (dC, dI) vwCl [(cA242, .int)] s := hK
  have hP : va_P (dC, dI) vwCl [(h0, .inr (10, [.int 0, .int 0, .null, .null, .null, .null, .null, .null, .null, .null, .null])), (q241, .inl (cA242, 10, .inl (fun _ => 0)))] H243 := hP
  have hD : va_D A [(h0, .inr (10, [.int 0, .int 0, .null, .null, .null, .null, .null, .null, .null, .null, .null])), (q241, .inl (cA242, 10, .inl (fun _ => 0)))] := hD
  refine va_putF (D := (dC, dI)) (ci := 10) (v := .ref q241) (ty := (.array .int)) (C := RX10) (T := TX10) (N := 11) hx hb hts gX10 tyX10 tyX10_ok nmX10 hown hK hP hD hS 0 rfl rfl 2 (by decide) (hts _ u_44) (fun _ h9 => h9) rfl hin rfl (by decide +kernel) rfl rfl (Nat.le_of_ble_eq_true rfl) dX10_init_9 (fun H244 locs hP hD hS => ?_)
  have hP : va_P (dC, dI) vwCl [(h0, .inr (10, [.int 0, .int 0, .ref q241, .null, .null, .null, .null, .null, .null, .null, .null])), (q241, .inl (cA242, 10, .inl (fun _ => 0)))] H244 := hP
  have hD : va_D A [(h0, .inr (10, [.int 0, .int 0, .ref q241, .null, .null, .null, .null, .null, .null, .null, .null])), (q241, .inl (cA242, 10, .inl (fun _ => 0)))] := hD
  refine lv_aload_n hx hb dX10_init_12 rfl (lv_at hl 0 rfl) ?_
  refine lv_bipush (v := 40) hx hb dX10_init_13 (by decide) ?_
  refine va_newa (atype := .int) (ty := .int) (N' := 40) (a0 := (40, .inl (fun _ => 0))) hx hb (hts _ u_80) rfl hK hP hD hS hA (fun _ => rfl) (by decide) (by decide) (Nat.le_of_ble_eq_true rfl) (Nat.le_of_ble_eq_true rfl) (Nat.le_of_ble_eq_true rfl) dX10_init_15 (fun q245 cA246 H247 hK hP hD hS => ?_)
  refine W.widen (k := 2) (n := 50) (Nat.le_of_ble_eq_true rfl) (Nat.le_of_ble_eq_true rfl) ?_
  have hK : va_K (dC, dI) vwCl [(cA242, .int), (cA246, .int)] s := hK
  have hP : va_P (dC, dI) vwCl [(h0, .inr (10, [.int 0, .int 0, .ref q241, .null, .null, .null, .null, .null, .null, .null, .null])), (q241, .inl (cA242, 10, .inl (fun _ => 0))), (q245, .inl (cA246, 40, .inl (fun _ => 0)))] H247 := hP
  have hD : va_D A [(h0, .inr (10, [.int 0, .int 0, .ref q241, .null, .null, .null, .null, .null, .null, .null, .null])), (q241, .inl (cA242, 10, .inl (fun _ => 0))), (q245, .inl (cA246, 40, .inl (fun _ => 0)))] := hD
  refine va_putF (D := (dC, dI)) (ci := 10) (v := .ref q245) (ty := (.array .int)) (C := RX10) (T := TX10) (N := 11) hx hb hts gX10 tyX10 tyX10_ok nmX10 hown hK hP hD hS 0 rfl rfl 3 (by decide) (hts _ u_45) (fun _ h9 => h9) rfl hin rfl (by decide +kernel) rfl rfl (Nat.le_of_ble_eq_true rfl) dX10_init_17 (fun H248 locs hP hD hS => ?_)
  have hP : va_P (dC, dI) vwCl [(h0, .inr (10, [.int 0, .int 0, .ref q241, .ref q245, .null, .null, .null, .null, .null, .null, .null])), (q241, .inl (cA242, 10, .inl (fun _ => 0))), (q245, .inl (cA246, 40, .inl (fun _ => 0)))] H248 := hP
  have hD : va_D A [(h0, .inr (10, [.int 0, .int 0, .ref q241, .ref q245, .null, .null, .null, .null, .null, .null, .null])), (q241, .inl (cA242, 10, .inl (fun _ => 0))), (q245, .inl (cA246, 40, .inl (fun _ => 0)))] := hD
  refine lv_aload_n hx hb dX10_init_20 rfl (lv_at hl 0 rfl) ?_
  refine lv_bipush (v := 40) hx hb dX10_init_21 (by decide) ?_
  refine va_newa (atype := .int) (ty := .int) (N' := 40) (a0 := (40, .inl (fun _ => 0))) hx hb (hts _ u_80) rfl hK hP hD hS hA (fun _ => rfl) (by decide) (by decide) (Nat.le_of_ble_eq_true rfl) (Nat.le_of_ble_eq_true rfl) (Nat.le_of_ble_eq_true rfl) dX10_init_23 (fun q249 cA250 H251 hK hP hD hS => ?_)
  refine W.widen (k := 3) (n := 90) (Nat.le_of_ble_eq_true rfl) (Nat.le_of_ble_eq_true rfl) ?_
  have hK : va_K (dC, dI) vwCl [(cA242, .int), (cA246, .int), (cA250, .int)] s := hK
  have hP : va_P (dC, dI) vwCl [(h0, .inr (10, [.int 0, .int 0, .ref q241, .ref q245, .null, .null, .null, .null, .null, .null, .null])), (q241, .inl (cA242, 10, .inl (fun _ => 0))), (q245, .inl (cA246, 40, .inl (fun _ => 0))), (q249, .inl (cA250, 40, .inl (fun _ => 0)))] H251 := hP
  have hD : va_D A [(h0, .inr (10, [.int 0, .int 0, .ref q241, .ref q245, .null, .null, .null, .null, .null, .null, .null])), (q241, .inl (cA242, 10, .inl (fun _ => 0))), (q245, .inl (cA246, 40, .inl (fun _ => 0))), (q249, .inl (cA250, 40, .inl (fun _ => 0)))] := hD
  refine va_putF (D := (dC, dI)) (ci := 10) (v := .ref q249) (ty := (.array .int)) (C := RX10) (T := TX10) (N := 11) hx hb hts gX10 tyX10 tyX10_ok nmX10 hown hK hP hD hS 0 rfl rfl 4 (by decide) (hts _ u_46) (fun _ h9 => h9) rfl hin rfl (by decide +kernel) rfl rfl (Nat.le_of_ble_eq_true rfl) dX10_init_25 (fun H252 locs hP hD hS => ?_)
  have hP : va_P (dC, dI) vwCl [(h0, .inr (10, [.int 0, .int 0, .ref q241, .ref q245, .ref q249, .null, .null, .null, .null, .null, .null])), (q241, .inl (cA242, 10, .inl (fun _ => 0))), (q245, .inl (cA246, 40, .inl (fun _ => 0))), (q249, .inl (cA250, 40, .inl (fun _ => 0)))] H252 := hP
  have hD : va_D A [(h0, .inr (10, [.int 0, .int 0, .ref q241, .ref q245, .ref q249, .null, .null, .null, .null, .null, .null])), (q241, .inl (cA242, 10, .inl (fun _ => 0))), (q245, .inl (cA246, 40, .inl (fun _ => 0))), (q249, .inl (cA250, 40, .inl (fun _ => 0)))] := hD
  refine lv_aload_n hx hb dX10_init_28 rfl (lv_at hl 0 rfl) ?_
  refine lv_bipush (v := 16) hx hb dX10_init_29 (by decide) ?_
  refine va_newa (atype := .int) (ty := .int) (N' := 16) (a0 := (16, .inl (fun _ => 0))) hx hb (hts _ u_80) rfl hK hP hD hS hA (fun _ => rfl) (by decide) (by decide) (Nat.le_of_ble_eq_true rfl) (Nat.le_of_ble_eq_true rfl) (Nat.le_of_ble_eq_true rfl) dX10_init_31 (fun q253 cA254 H255 hK hP hD hS => ?_)
  refine W.widen (k := 4) (n := 106) (Nat.le_of_ble_eq_true rfl) (Nat.le_of_ble_eq_true rfl) ?_
  have hK : va_K (dC, dI) vwCl [(cA242, .int), (cA246, .int), (cA250, .int), (cA254, .int)] s := hK
  have hP : va_P (dC, dI) vwCl [(h0, .inr (10, [.int 0, .int 0, .ref q241, .ref q245, .ref q249, .null, .null, .null, .null, .null, .null])), (q241, .inl (cA242, 10, .inl (fun _ => 0))), (q245, .inl (cA246, 40, .inl (fun _ => 0))), (q249, .inl (cA250, 40, .inl (fun _ => 0))), (q253, .inl (cA254, 16, .inl (fun _ => 0)))] H255 := hP
  have hD : va_D A [(h0, .inr (10, [.int 0, .int 0, .ref q241, .ref q245, .ref q249, .null, .null, .null, .null, .null, .null])), (q241, .inl (cA242, 10, .inl (fun _ => 0))), (q245, .inl (cA246, 40, .inl (fun _ => 0))), (q249, .inl (cA250, 40, .inl (fun _ => 0))), (q253, .inl (cA254, 16, .inl (fun _ => 0)))] := hD
  have hP := hP.sub (ws' := [(h0, .inr (10, [.int 0, .int 0, .ref q241, .ref q245, .ref q249, .null, .null, .null, .null, .null, .null])), (q241, .inl (cA242, 10, .inl (fun _ => 0))), (q245, .inl (cA246, 40, .inl (fun _ => 0))), (q249, .inl (cA250, 40, .inl (fun _ => 0)))]) [0, 1, 2, 3] rfl
  have hD := hD.sub (ws' := [(h0, .inr (10, [.int 0, .int 0, .ref q241, .ref q245, .ref q249, .null, .null, .null, .null, .null, .null])), (q241, .inl (cA242, 10, .inl (fun _ => 0))), (q245, .inl (cA246, 40, .inl (fun _ => 0))), (q249, .inl (cA250, 40, .inl (fun _ => 0)))]) [0, 1, 2, 3] (by decide) rfl
  have hK := hK.sub (tys' := [(cA242, .int), (cA246, .int), (cA250, .int)]) [0, 1, 2] rfl
  refine va_putF (D := (dC, dI)) (ci := 10) (v := .ref q253) (ty := (.array .int)) (C := RX10) (T := TX10) (N := 11) hx hb hts gX10 tyX10 tyX10_ok nmX10 hown hK hP hD hS 0 rfl rfl 5 (by decide) (hts _ u_49) (fun _ h9 => h9) rfl hin rfl (by decide +kernel) rfl rfl (Nat.le_of_ble_eq_true rfl) dX10_init_33 (fun H256 locs hP hD hS => ?_)
  have hP : va_P (dC, dI) vwCl [(h0, .inr (10, [.int 0, .int 0, .ref q241, .ref q245, .ref q249, .ref q253, .null, .null, .null, .null, .null])), (q241, .inl (cA242, 10, .inl (fun _ => 0))), (q245, .inl (cA246, 40, .inl (fun _ => 0))), (q249, .inl (cA250, 40, .inl (fun _ => 0)))] H256 := hP
  have hD : va_D A [(h0, .inr (10, [.int 0, .int 0, .ref q241, .ref q245, .ref q249, .ref q253, .null, .null, .null, .null, .null])), (q241, .inl (cA242, 10, .inl (fun _ => 0))), (q245, .inl (cA246, 40, .inl (fun _ => 0))), (q249, .inl (cA250, 40, .inl (fun _ => 0)))] := hD
  refine lv_aload_n hx hb dX10_init_36 rfl (lv_at hl 0 rfl) ?_
  refine lv_bipush (v := 16) hx hb dX10_init_37 (by decide) ?_
  refine va_newa (atype := .int) (ty := .int) (N' := 16) (a0 := (16, .inl (fun _ => 0))) hx hb (hts _ u_80) rfl hK hP hD hS hA (fun _ => rfl) (by decide) (by decide) (Nat.le_of_ble_eq_true rfl) (Nat.le_of_ble_eq_true rfl) (Nat.le_of_ble_eq_true rfl) dX10_init_39 (fun q257 cA258 H259 hK hP hD hS => ?_)
  refine W.widen (k := 5) (n := 122) (Nat.le_of_ble_eq_true rfl) (Nat.le_of_ble_eq_true rfl) ?_
  have hK : va_K (dC, dI) vwCl [(cA242, .int), (cA246, .int), (cA250, .int), (cA258, .int)] s := hK
  have hP : va_P (dC, dI) vwCl [(h0, .inr (10, [.int 0, .int 0, .ref q241, .ref q245, .ref q249, .ref q253, .null, .null, .null, .null, .null])), (q241, .inl (cA242, 10, .inl (fun _ => 0))), (q245, .inl (cA246, 40, .inl (fun _ => 0))), (q249, .inl (cA250, 40, .inl (fun _ => 0))), (q257, .inl (cA258, 16, .inl (fun _ => 0)))] H259 := hP
  have hD : va_D A [(h0, .inr (10, [.int 0, .int 0, .ref q241, .ref q245, .ref q249, .ref q253, .null, .null, .null, .null, .null])), (q241, .inl (cA242, 10, .inl (fun _ => 0))), (q245, .inl (cA246, 40, .inl (fun _ => 0))), (q249, .inl (cA250, 40, .inl (fun _ => 0))), (q257, .inl (cA258, 16, .inl (fun _ => 0)))] := hD
  have hP := hP.sub (ws' := [(h0, .inr (10, [.int 0, .int 0, .ref q241, .ref q245, .ref q249, .ref q253, .null, .null, .null, .null, .null])), (q241, .inl (cA242, 10, .inl (fun _ => 0))), (q245, .inl (cA246, 40, .inl (fun _ => 0))), (q249, .inl (cA250, 40, .inl (fun _ => 0)))]) [0, 1, 2, 3] rfl
  have hD := hD.sub (ws' := [(h0, .inr (10, [.int 0, .int 0, .ref q241, .ref q245, .ref q249, .ref q253, .null, .null, .null, .null, .null])), (q241, .inl (cA242, 10, .inl (fun _ => 0))), (q245, .inl (cA246, 40, .inl (fun _ => 0))), (q249, .inl (cA250, 40, .inl (fun _ => 0)))]) [0, 1, 2, 3] (by decide) rfl
  have hK := hK.sub (tys' := [(cA242, .int), (cA246, .int), (cA250, .int)]) [0, 1, 2] rfl
  refine va_putF (D := (dC, dI)) (ci := 10) (v := .ref q257) (ty := (.array .int)) (C := RX10) (T := TX10) (N := 11) hx hb hts gX10 tyX10 tyX10_ok nmX10 hown hK hP hD hS 0 rfl rfl 6 (by decide) (hts _ u_50) (fun _ h9 => h9) rfl hin rfl (by decide +kernel) rfl rfl (Nat.le_of_ble_eq_true rfl) dX10_init_41 (fun H260 locs hP hD hS => ?_)
  have hP : va_P (dC, dI) vwCl [(h0, .inr (10, [.int 0, .int 0, .ref q241, .ref q245, .ref q249, .ref q253, .ref q257, .null, .null, .null, .null])), (q241, .inl (cA242, 10, .inl (fun _ => 0))), (q245, .inl (cA246, 40, .inl (fun _ => 0))), (q249, .inl (cA250, 40, .inl (fun _ => 0)))] H260 := hP
  have hD : va_D A [(h0, .inr (10, [.int 0, .int 0, .ref q241, .ref q245, .ref q249, .ref q253, .ref q257, .null, .null, .null, .null])), (q241, .inl (cA242, 10, .inl (fun _ => 0))), (q245, .inl (cA246, 40, .inl (fun _ => 0))), (q249, .inl (cA250, 40, .inl (fun _ => 0)))] := hD
  refine lv_aload_n hx hb dX10_init_44 rfl (lv_at hl 0 rfl) ?_
  refine lv_bipush (v := 16) hx hb dX10_init_45 (by decide) ?_
  refine va_newa (atype := .boolean) (ty := .boolean) (N' := 16) (a0 := (16, .inl (fun _ => 0))) hx hb (hts _ u_81) rfl hK hP hD hS hA (fun _ => rfl) (by decide) (by decide) (Nat.le_of_ble_eq_true rfl) (Nat.le_of_ble_eq_true rfl) (Nat.le_of_ble_eq_true rfl) dX10_init_47 (fun q261 cA262 H263 hK hP hD hS => ?_)
  refine W.widen (k := 6) (n := 138) (Nat.le_of_ble_eq_true rfl) (Nat.le_of_ble_eq_true rfl) ?_
  have hK : va_K (dC, dI) vwCl [(cA242, .int), (cA246, .int), (cA250, .int), (cA262, .boolean)] s := hK
  have hP : va_P (dC, dI) vwCl [(h0, .inr (10, [.int 0, .int 0, .ref q241, .ref q245, .ref q249, .ref q253, .ref q257, .null, .null, .null, .null])), (q241, .inl (cA242, 10, .inl (fun _ => 0))), (q245, .inl (cA246, 40, .inl (fun _ => 0))), (q249, .inl (cA250, 40, .inl (fun _ => 0))), (q261, .inl (cA262, 16, .inl (fun _ => 0)))] H263 := hP
  have hD : va_D A [(h0, .inr (10, [.int 0, .int 0, .ref q241, .ref q245, .ref q249, .ref q253, .ref q257, .null, .null, .null, .null])), (q241, .inl (cA242, 10, .inl (fun _ => 0))), (q245, .inl (cA246, 40, .inl (fun _ => 0))), (q249, .inl (cA250, 40, .inl (fun _ => 0))), (q261, .inl (cA262, 16, .inl (fun _ => 0)))] := hD
  have hP := hP.sub (ws' := [(h0, .inr (10, [.int 0, .int 0, .ref q241, .ref q245, .ref q249, .ref q253, .ref q257, .null, .null, .null, .null])), (q241, .inl (cA242, 10, .inl (fun _ => 0))), (q245, .inl (cA246, 40, .inl (fun _ => 0))), (q249, .inl (cA250, 40, .inl (fun _ => 0)))]) [0, 1, 2, 3] rfl
  have hD := hD.sub (ws' := [(h0, .inr (10, [.int 0, .int 0, .ref q241, .ref q245, .ref q249, .ref q253, .ref q257, .null, .null, .null, .null])), (q241, .inl (cA242, 10, .inl (fun _ => 0))), (q245, .inl (cA246, 40, .inl (fun _ => 0))), (q249, .inl (cA250, 40, .inl (fun _ => 0)))]) [0, 1, 2, 3] (by decide) rfl
  have hK := hK.sub (tys' := [(cA242, .int), (cA246, .int), (cA250, .int)]) [0, 1, 2] rfl
  refine va_putF (D := (dC, dI)) (ci := 10) (v := .ref q261) (ty := (.array .boolean)) (C := RX10) (T := TX10) (N := 11) hx hb hts gX10 tyX10 tyX10_ok nmX10 hown hK hP hD hS 0 rfl rfl 7 (by decide) (hts _ u_51) (fun _ h9 => h9) rfl hin rfl (by decide +kernel) rfl rfl (Nat.le_of_ble_eq_true rfl) dX10_init_49 (fun H264 locs hP hD hS => ?_)
  have hP : va_P (dC, dI) vwCl [(h0, .inr (10, [.int 0, .int 0, .ref q241, .ref q245, .ref q249, .ref q253, .ref q257, .ref q261, .null, .null, .null])), (q241, .inl (cA242, 10, .inl (fun _ => 0))), (q245, .inl (cA246, 40, .inl (fun _ => 0))), (q249, .inl (cA250, 40, .inl (fun _ => 0)))] H264 := hP
  have hD : va_D A [(h0, .inr (10, [.int 0, .int 0, .ref q241, .ref q245, .ref q249, .ref q253, .ref q257, .ref q261, .null, .null, .null])), (q241, .inl (cA242, 10, .inl (fun _ => 0))), (q245, .inl (cA246, 40, .inl (fun _ => 0))), (q249, .inl (cA250, 40, .inl (fun _ => 0)))] := hD
  refine lv_aload_n hx hb dX10_init_52 rfl (lv_at hl 0 rfl) ?_
  refine lv_bipush (v := 16) hx hb dX10_init_53 (by decide) ?_
  refine va_newa (atype := .boolean) (ty := .boolean) (N' := 16) (a0 := (16, .inl (fun _ => 0))) hx hb (hts _ u_81) rfl hK hP hD hS hA (fun _ => rfl) (by decide) (by decide) (Nat.le_of_ble_eq_true rfl) (Nat.le_of_ble_eq_true rfl) (Nat.le_of_ble_eq_true rfl) dX10_init_55 (fun q265 cA266 H267 hK hP hD hS => ?_)
  refine W.widen (k := 7) (n := 154) (Nat.le_of_ble_eq_true rfl) (Nat.le_of_ble_eq_true rfl) ?_
  have hK : va_K (dC, dI) vwCl [(cA242, .int), (cA246, .int), (cA250, .int), (cA266, .boolean)] s := hK
  have hP : va_P (dC, dI) vwCl [(h0, .inr (10, [.int 0, .int 0, .ref q241, .ref q245, .ref q249, .ref q253, .ref q257, .ref q261, .null, .null, .null])), (q241, .inl (cA242, 10, .inl (fun _ => 0))), (q245, .inl (cA246, 40, .inl (fun _ => 0))), (q249, .inl (cA250, 40, .inl (fun _ => 0))), (q265, .inl (cA266, 16, .inl (fun _ => 0)))] H267 := hP
  have hD : va_D A [(h0, .inr (10, [.int 0, .int 0, .ref q241, .ref q245, .ref q249, .ref q253, .ref q257, .ref q261, .null, .null, .null])), (q241, .inl (cA242, 10, .inl (fun _ => 0))), (q245, .inl (cA246, 40, .inl (fun _ => 0))), (q249, .inl (cA250, 40, .inl (fun _ => 0))), (q265, .inl (cA266, 16, .inl (fun _ => 0)))] := hD
  have hP := hP.sub (ws' := [(h0, .inr (10, [.int 0, .int 0, .ref q241, .ref q245, .ref q249, .ref q253, .ref q257, .ref q261, .null, .null, .null])), (q241, .inl (cA242, 10, .inl (fun _ => 0))), (q245, .inl (cA246, 40, .inl (fun _ => 0))), (q249, .inl (cA250, 40, .inl (fun _ => 0)))]) [0, 1, 2, 3] rfl
  have hD := hD.sub (ws' := [(h0, .inr (10, [.int 0, .int 0, .ref q241, .ref q245, .ref q249, .ref q253, .ref q257, .ref q261, .null, .null, .null])), (q241, .inl (cA242, 10, .inl (fun _ => 0))), (q245, .inl (cA246, 40, .inl (fun _ => 0))), (q249, .inl (cA250, 40, .inl (fun _ => 0)))]) [0, 1, 2, 3] (by decide) rfl
  have hK := hK.sub (tys' := [(cA242, .int), (cA246, .int), (cA250, .int)]) [0, 1, 2] rfl
  refine va_putF (D := (dC, dI)) (ci := 10) (v := .ref q265) (ty := (.array .boolean)) (C := RX10) (T := TX10) (N := 11) hx hb hts gX10 tyX10 tyX10_ok nmX10 hown hK hP hD hS 0 rfl rfl 8 (by decide) (hts _ u_53) (fun _ h9 => h9) rfl hin rfl (by decide +kernel) rfl rfl (Nat.le_of_ble_eq_true rfl) dX10_init_57 (fun H268 locs hP hD hS => ?_)
  have hP : va_P (dC, dI) vwCl [(h0, .inr (10, [.int 0, .int 0, .ref q241, .ref q245, .ref q249, .ref q253, .ref q257, .ref q261, .ref q265, .null, .null])), (q241, .inl (cA242, 10, .inl (fun _ => 0))), (q245, .inl (cA246, 40, .inl (fun _ => 0))), (q249, .inl (cA250, 40, .inl (fun _ => 0)))] H268 := hP
  have hD : va_D A [(h0, .inr (10, [.int 0, .int 0, .ref q241, .ref q245, .ref q249, .ref q253, .ref q257, .ref q261, .ref q265, .null, .null])), (q241, .inl (cA242, 10, .inl (fun _ => 0))), (q245, .inl (cA246, 40, .inl (fun _ => 0))), (q249, .inl (cA250, 40, .inl (fun _ => 0)))] := hD
  refine lv_aload_n hx hb dX10_init_60 rfl (lv_at hl 0 rfl) ?_
  refine lv_bipush (v := 10) hx hb dX10_init_61 (by decide) ?_
  refine va_newa (atype := .int) (ty := .int) (N' := 10) (a0 := (10, .inl (fun _ => 0))) hx hb (hts _ u_80) rfl hK hP hD hS hA (fun _ => rfl) (by decide) (by decide) (Nat.le_of_ble_eq_true rfl) (Nat.le_of_ble_eq_true rfl) (Nat.le_of_ble_eq_true rfl) dX10_init_63 (fun q269 cA270 H271 hK hP hD hS => ?_)
  refine W.widen (k := 8) (n := 164) (Nat.le_of_ble_eq_true rfl) (Nat.le_of_ble_eq_true rfl) ?_
  have hK : va_K (dC, dI) vwCl [(cA242, .int), (cA246, .int), (cA250, .int), (cA270, .int)] s := hK
  have hP : va_P (dC, dI) vwCl [(h0, .inr (10, [.int 0, .int 0, .ref q241, .ref q245, .ref q249, .ref q253, .ref q257, .ref q261, .ref q265, .null, .null])), (q241, .inl (cA242, 10, .inl (fun _ => 0))), (q245, .inl (cA246, 40, .inl (fun _ => 0))), (q249, .inl (cA250, 40, .inl (fun _ => 0))), (q269, .inl (cA270, 10, .inl (fun _ => 0)))] H271 := hP
  have hD : va_D A [(h0, .inr (10, [.int 0, .int 0, .ref q241, .ref q245, .ref q249, .ref q253, .ref q257, .ref q261, .ref q265, .null, .null])), (q241, .inl (cA242, 10, .inl (fun _ => 0))), (q245, .inl (cA246, 40, .inl (fun _ => 0))), (q249, .inl (cA250, 40, .inl (fun _ => 0))), (q269, .inl (cA270, 10, .inl (fun _ => 0)))] := hD
  have hP := hP.sub (ws' := [(h0, .inr (10, [.int 0, .int 0, .ref q241, .ref q245, .ref q249, .ref q253, .ref q257, .ref q261, .ref q265, .null, .null])), (q241, .inl (cA242, 10, .inl (fun _ => 0))), (q245, .inl (cA246, 40, .inl (fun _ => 0))), (q249, .inl (cA250, 40, .inl (fun _ => 0)))]) [0, 1, 2, 3] rfl
  have hD := hD.sub (ws' := [(h0, .inr (10, [.int 0, .int 0, .ref q241, .ref q245, .ref q249, .ref q253, .ref q257, .ref q261, .ref q265, .null, .null])), (q241, .inl (cA242, 10, .inl (fun _ => 0))), (q245, .inl (cA246, 40, .inl (fun _ => 0))), (q249, .inl (cA250, 40, .inl (fun _ => 0)))]) [0, 1, 2, 3] (by decide) rfl
  have hK := hK.sub (tys' := [(cA242, .int), (cA246, .int), (cA250, .int)]) [0, 1, 2] rfl
  refine va_putF (D := (dC, dI)) (ci := 10) (v := .ref q269) (ty := (.array .int)) (C := RX10) (T := TX10) (N := 11) hx hb hts gX10 tyX10 tyX10_ok nmX10 hown hK hP hD hS 0 rfl rfl 9 (by decide) (hts _ u_55) (fun _ h9 => h9) rfl hin rfl (by decide +kernel) rfl rfl (Nat.le_of_ble_eq_true rfl) dX10_init_65 (fun H272 locs hP hD hS => ?_)
  have hP : va_P (dC, dI) vwCl [(h0, .inr (10, [.int 0, .int 0, .ref q241, .ref q245, .ref q249, .ref q253, .ref q257, .ref q261, .ref q265, .ref q269, .null])), (q241, .inl (cA242, 10, .inl (fun _ => 0))), (q245, .inl (cA246, 40, .inl (fun _ => 0))), (q249, .inl (cA250, 40, .inl (fun _ => 0)))] H272 := hP
  have hD : va_D A [(h0, .inr (10, [.int 0, .int 0, .ref q241, .ref q245, .ref q249, .ref q253, .ref q257, .ref q261, .ref q265, .ref q269, .null])), (q241, .inl (cA242, 10, .inl (fun _ => 0))), (q245, .inl (cA246, 40, .inl (fun _ => 0))), (q249, .inl (cA250, 40, .inl (fun _ => 0)))] := hD
  refine lv_aload_n hx hb dX10_init_68 rfl (lv_at hl 0 rfl) ?_
  refine lv_bipush (v := 10) hx hb dX10_init_69 (by decide) ?_
  refine va_newa (atype := .int) (ty := .int) (N' := 10) (a0 := (10, .inl (fun _ => 0))) hx hb (hts _ u_80) rfl hK hP hD hS hA (fun _ => rfl) (by decide) (by decide) (Nat.le_of_ble_eq_true rfl) (Nat.le_of_ble_eq_true rfl) (Nat.le_of_ble_eq_true rfl) dX10_init_71 (fun q273 cA274 H275 hK hP hD hS => ?_)
  refine W.widen (k := 9) (n := 174) (Nat.le_of_ble_eq_true rfl) (Nat.le_of_ble_eq_true rfl) ?_
  have hK : va_K (dC, dI) vwCl [(cA242, .int), (cA246, .int), (cA250, .int), (cA274, .int)] s := hK
  have hP : va_P (dC, dI) vwCl [(h0, .inr (10, [.int 0, .int 0, .ref q241, .ref q245, .ref q249, .ref q253, .ref q257, .ref q261, .ref q265, .ref q269, .null])), (q241, .inl (cA242, 10, .inl (fun _ => 0))), (q245, .inl (cA246, 40, .inl (fun _ => 0))), (q249, .inl (cA250, 40, .inl (fun _ => 0))), (q273, .inl (cA274, 10, .inl (fun _ => 0)))] H275 := hP
  have hD : va_D A [(h0, .inr (10, [.int 0, .int 0, .ref q241, .ref q245, .ref q249, .ref q253, .ref q257, .ref q261, .ref q265, .ref q269, .null])), (q241, .inl (cA242, 10, .inl (fun _ => 0))), (q245, .inl (cA246, 40, .inl (fun _ => 0))), (q249, .inl (cA250, 40, .inl (fun _ => 0))), (q273, .inl (cA274, 10, .inl (fun _ => 0)))] := hD
  have hP := hP.sub (ws' := [(h0, .inr (10, [.int 0, .int 0, .ref q241, .ref q245, .ref q249, .ref q253, .ref q257, .ref q261, .ref q265, .ref q269, .null])), (q241, .inl (cA242, 10, .inl (fun _ => 0))), (q245, .inl (cA246, 40, .inl (fun _ => 0))), (q249, .inl (cA250, 40, .inl (fun _ => 0)))]) [0, 1, 2, 3] rfl
  have hD := hD.sub (ws' := [(h0, .inr (10, [.int 0, .int 0, .ref q241, .ref q245, .ref q249, .ref q253, .ref q257, .ref q261, .ref q265, .ref q269, .null])), (q241, .inl (cA242, 10, .inl (fun _ => 0))), (q245, .inl (cA246, 40, .inl (fun _ => 0))), (q249, .inl (cA250, 40, .inl (fun _ => 0)))]) [0, 1, 2, 3] (by decide) rfl
  have hK := hK.sub (tys' := [(cA242, .int), (cA246, .int), (cA250, .int)]) [0, 1, 2] rfl
  refine va_putF (D := (dC, dI)) (ci := 10) (v := .ref q273) (ty := (.array .int)) (C := RX10) (T := TX10) (N := 11) hx hb hts gX10 tyX10 tyX10_ok nmX10 hown hK hP hD hS 0 rfl rfl 10 (by decide) (hts _ u_56) (fun _ h9 => h9) rfl hin rfl (by decide +kernel) rfl rfl (Nat.le_of_ble_eq_true rfl) dX10_init_73 (fun H276 locs hP hD hS => ?_)
  have hP : va_P (dC, dI) vwCl [(h0, .inr (10, [.int 0, .int 0, .ref q241, .ref q245, .ref q249, .ref q253, .ref q257, .ref q261, .ref q265, .ref q269, .ref q273])), (q241, .inl (cA242, 10, .inl (fun _ => 0))), (q245, .inl (cA246, 40, .inl (fun _ => 0))), (q249, .inl (cA250, 40, .inl (fun _ => 0)))] H276 := hP
  have hD : va_D A [(h0, .inr (10, [.int 0, .int 0, .ref q241, .ref q245, .ref q249, .ref q253, .ref q257, .ref q261, .ref q265, .ref q269, .ref q273])), (q241, .inl (cA242, 10, .inl (fun _ => 0))), (q245, .inl (cA246, 40, .inl (fun _ => 0))), (q249, .inl (cA250, 40, .inl (fun _ => 0)))] := hD
  refine lv_aload_n hx hb dX10_init_76 rfl (lv_at hl 0 rfl) ?_
  refine va_get (D := (dC, dI)) (ci := 10) (v := .ref q245) (C := RX10) (T := TX10) (N := 11) hx hb hts gX10 hown hK hP 0 rfl rfl 3 (by decide) (hts _ u_45) (fun _ h9 => h9) rfl dX10_init_77 ?_
  refine lv_iconst (v := (-1)) hx hb dX10_init_80 (by decide) ?_
  have hPc := hP.sub (ws' := [(q245, .inl (cA246, 40, .inl (fun _ => 0)))]) [2] rfl
  have hDc := hD.sub (ws' := [(q245, .inl (cA246, 40, .inl (fun _ => 0)))]) [2] (by decide) rfl
  have hKc := hK.sub (tys' := [(cA246, .int)]) [1] rfl
  have hFc := va_free (wc := [(q245, .inl (cA246, 40, .inl (fun _ => 0)))]) hD hS hA [2] rfl
  refine va_callv (va_runS (As := [.ref q245, .int (-1)]) (rest := []) ⟨hx, hb, hml, hown, hts⟩ (c_J7_fill_53178 l dC dI H276.size q245 cA246 40 (by decide) (fun _ => 0) (-1)) (va_cwS 2 hts (gS u_37 u_38 u_3 u_39) rfl rfl rfl (by decide +kernel) ⟨Nat.le_of_ble_eq_true rfl, Nat.le_of_ble_eq_true rfl⟩) ⟨gP_blind, gP_call hPc hKc hDc hE⟩ rfl rfl hl.1 rfl (lv_room (Nat.le_of_ble_eq_true rfl)) dX10_init_81 ⟨(Nat.le_of_ble_eq_true rfl), (Nat.le_of_ble_eq_true rfl)⟩) hS (fun q _ h => hFc q h) hFc (fun u9 t9 H277 locs ht hvm hw hB hz1 hk1 hS => ?_)
  obtain ⟨f2279, hP1, hK1, hD1⟩ := hB
  rw [ht] at hP1
  have hK1 := va_K.moved hvm.symm hK1
  obtain ⟨hP, hD⟩ := va_join (wr := [(h0, .inr (10, [.int 0, .int 0, .ref q241, .ref q245, .ref q249, .ref q253, .ref q257, .ref q261, .ref q265, .ref q269, .ref q273])), (q241, .inl (cA242, 10, .inl (fun _ => 0))), (q249, .inl (cA250, 40, .inl (fun _ => 0)))]) (w1 := [(q245, .inl (cA246, 40, .inl f2279))]) hP hD [2] [0, 1, 3] rfl rfl (by decide) (by decide) hk1 hFc hP1 hD1
  have hK := (hK.sub (tys' := [(cA242, .int), (cA250, .int)]) [0, 2] rfl).app hK1
  have hK : va_K (dC, dI) vwCl [(cA242, .int), (cA250, .int), (cA246, .int)] s := hK
  have hP : va_P (dC, dI) vwCl [(h0, .inr (10, [.int 0, .int 0, .ref q241, .ref q245, .ref q249, .ref q253, .ref q257, .ref q261, .ref q265, .ref q269, .ref q273])), (q241, .inl (cA242, 10, .inl (fun _ => 0))), (q249, .inl (cA250, 40, .inl (fun _ => 0))), (q245, .inl (cA246, 40, .inl f2279))] H277 := hP
  have hD : va_D A [(h0, .inr (10, [.int 0, .int 0, .ref q241, .ref q245, .ref q249, .ref q253, .ref q257, .ref q261, .ref q265, .ref q269, .ref q273])), (q241, .inl (cA242, 10, .inl (fun _ => 0))), (q249, .inl (cA250, 40, .inl (fun _ => 0))), (q245, .inl (cA246, 40, .inl f2279))] := hD
  refine lv_aload_n hx hb dX10_init_84 rfl (lv_at hl 0 rfl) ?_
  refine va_get (D := (dC, dI)) (ci := 10) (v := .ref q249) (C := RX10) (T := TX10) (N := 11) hx hb hts gX10 hown hK hP 0 rfl rfl 4 (by decide) (hts _ u_46) (fun _ h9 => h9) rfl dX10_init_85 ?_
  refine lv_iconst (v := (-1)) hx hb dX10_init_88 (by decide) ?_
  have hPc := hP.sub (ws' := [(q249, .inl (cA250, 40, .inl (fun _ => 0)))]) [2] rfl
  have hDc := hD.sub (ws' := [(q249, .inl (cA250, 40, .inl (fun _ => 0)))]) [2] (by decide) rfl
  have hKc := hK.sub (tys' := [(cA250, .int)]) [1] rfl
  have hFc := va_free (wc := [(q249, .inl (cA250, 40, .inl (fun _ => 0)))]) hD hS hA [2] rfl
  refine va_callv (va_runS (As := [.ref q249, .int (-1)]) (rest := []) ⟨hx, hb, hml, hown, hts⟩ (c_J7_fill_53178 l dC dI H277.size q249 cA250 40 (by decide) (fun _ => 0) (-1)) (va_cwS 2 hts (gS u_37 u_38 u_3 u_39) rfl rfl rfl (by decide +kernel) ⟨Nat.le_of_ble_eq_true rfl, Nat.le_of_ble_eq_true rfl⟩) ⟨gP_blind, gP_call hPc hKc hDc hE⟩ rfl rfl hl.1 rfl (lv_room (Nat.le_of_ble_eq_true rfl)) dX10_init_89 ⟨(Nat.le_of_ble_eq_true rfl), (Nat.le_of_ble_eq_true rfl)⟩) hS (fun q _ h => hFc q h) hFc (fun u9 t9 H280 locs ht hvm hw hB hz1 hk1 hS => ?_)
  obtain ⟨f2282, hP1, hK1, hD1⟩ := hB
  rw [ht] at hP1
  have hK1 := va_K.moved hvm.symm hK1
  obtain ⟨hP, hD⟩ := va_join (wr := [(h0, .inr (10, [.int 0, .int 0, .ref q241, .ref q245, .ref q249, .ref q253, .ref q257, .ref q261, .ref q265, .ref q269, .ref q273])), (q241, .inl (cA242, 10, .inl (fun _ => 0))), (q245, .inl (cA246, 40, .inl f2279))]) (w1 := [(q249, .inl (cA250, 40, .inl f2282))]) hP hD [2] [0, 1, 3] rfl rfl (by decide) (by decide) hk1 hFc hP1 hD1
  have hK := (hK.sub (tys' := [(cA242, .int), (cA246, .int)]) [0, 2] rfl).app hK1
  have hK : va_K (dC, dI) vwCl [(cA242, .int), (cA246, .int), (cA250, .int)] s := hK
  have hP : va_P (dC, dI) vwCl [(h0, .inr (10, [.int 0, .int 0, .ref q241, .ref q245, .ref q249, .ref q253, .ref q257, .ref q261, .ref q265, .ref q269, .ref q273])), (q241, .inl (cA242, 10, .inl (fun _ => 0))), (q245, .inl (cA246, 40, .inl f2279)), (q249, .inl (cA250, 40, .inl f2282))] H280 := hP
  have hD : va_D A [(h0, .inr (10, [.int 0, .int 0, .ref q241, .ref q245, .ref q249, .ref q253, .ref q257, .ref q261, .ref q265, .ref q269, .ref q273])), (q241, .inl (cA242, 10, .inl (fun _ => 0))), (q245, .inl (cA246, 40, .inl f2279)), (q249, .inl (cA250, 40, .inl f2282))] := hD
  have hP := hP.sub (ws' := [(h0, .inr (10, [.int 0, .int 0, .ref q241, .ref q245, .ref q249, .ref q253, .ref q257, .ref q261, .ref q265, .ref q269, .ref q273])), (q241, .inl (cA242, 10, .inl (fun _ => 0)))]) [0, 1] rfl
  have hD := hD.sub (ws' := [(h0, .inr (10, [.int 0, .int 0, .ref q241, .ref q245, .ref q249, .ref q253, .ref q257, .ref q261, .ref q265, .ref q269, .ref q273])), (q241, .inl (cA242, 10, .inl (fun _ => 0)))]) [0, 1] (by decide) rfl
  have hK := hK.sub (tys' := [(cA242, .int)]) [0] rfl
  refine W.widen (k := 9) (n := 174) (Nat.le_of_ble_eq_true rfl) (Nat.le_of_ble_eq_true rfl) ?_
  exact W.vret hx hb hr (fun t ht hW => ⟨⟨(), rfl, trivial, ⟨q241, cA242, (fun k => [q245, q249, q253, q257, q261, q265, q269, q273].getD k 0), by rw [ht]; exact hP, va_K.moved hW.alike hK, hD⟩⟩, hS.F ht⟩) hS.2.2 dX10_init_92
set_option maxHeartbeats 4000000 in
set_option maxRecDepth 100000 in
theorem c_X7_init (l : Launch) (dC : Nat → ClassId) (dI : Nat → Nat → Nat) (sz : Nat) (h0 : Nat) (w : Nat) : Met l yX7_init (Cond.code yX7_init cX7_init 2 none :: gU) ({ frames := 1, cells := 4, slots := 100, locals := 12 }) (gP dC dI sz [(h0, .inr (7, [.null, .null, .null, .int 0, .null, .null]))] [] [.ref h0, .ref w]) (va_Qv (fun (_ : Unit) => True) (fun (_ : Unit) (t9 : State) => ∃ (sn : Nat), ∃ (cS : ClassId), ∃ (gS : Nat → Nat), va_P (dC, dI) vwCl [(h0, .inr (7, oS w sn gS 0)), (sn, .inl (cS, 40, .inr (.inl (fun _ => 0))))] t9.heap ∧ va_K (dC, dI) vwCl [(cS, .long)] t9 ∧ va_D (va_A [(h0, .inr (7, [.null, .null, .null, .int 0, .null, .null]))] sz) [(h0, .inr (7, oS w sn gS 0)), (sn, .inl (cS, 40, .inr (.inl (fun _ => 0))))]) (va_A [(h0, .inr (7, [.null, .null, .null, .int 0, .null, .null]))] sz)) 4 100 (va_A [(h0, .inr (7, [.null, .null, .null, .int 0, .null, .null]))] sz) := by
  refine Met.ofW (cc := cX7_init) (maxL := 2) (ret := none) (by decide) rfl ?_
  intro p e s m args below meth c s₁ B hml hv
  obtain ⟨rfl, hsz, hP, hK, hD0, hE⟩ := hv
  have hx := B.exec
  have hb := B.bytes
  have hr := B.returns
  have hts0 := atoms_spec (ws := Cond.code yX7_init cX7_init 2 none :: gU) B.pre
  have hts : ∀ w ∈ gU, w.before _ s = true := fun w h => hts0 w (List.mem_cons_of_mem _ h)
  have hown : s.vm.findClass RX7 = some m.cls := findClass_of_methodNamed B.named
  have hlocks := B.notSynchronized
  have hin : meth.name = "<init>" := (name_of_methodNamed B.named B.method).1
  subst hsz
  have hD := hD0.self (sz := s.heap.size)
  generalize hAe : va_A [(h0, .inr (7, [.null, .null, .null, .int 0, .null, .null]))] s.heap.size = A at hD ⊢
  have hA : ∀ q : Nat, s.heap.size ≤ q → A q := fun q h => by rw [← hAe]; exact Or.inr h
  have hS : va_S A s.heap s.heap [] := va_S.rf
  have hP : va_P (dC, dI) vwCl [(h0, .inr (7, [.null, .null, .null, .int 0, .null, .null]))] s.heap := hP
  have hl := lv_entry ([.ref h0, .ref w]) (n := 2) (Nat.le_of_ble_eq_true rfl)
  rw [lg_entry_eq]
  generalize (lg_sl ([.ref h0, .ref w]) ++ List.replicate (2 - (lg_sl ([.ref h0, .ref w])).length) Slot.unset).toArray = ls at hl ⊢
  have hl : lv_has ls 2 [(0, .ref h0), (1, .ref w)] := hl
  refine lv_aload_n hx hb dX7_init_0 rfl (lv_at hl 0 rfl) ?_
  refine W.objInit hx hb hown (hts _ u_87) (hts _ u_29) (hts _ u_30) rfl (by rw [hml]; exact hl.1) rfl dX7_init_1 (Nat.le_of_ble_eq_true rfl) (Nat.le_of_ble_eq_true rfl) ?_
  refine W.eq (g2 := F0 m 4 ls []) rfl ?_
  refine lv_aload_n hx hb dX7_init_4 rfl (lv_at hl 0 rfl) ?_
  refine lv_aload_n hx hb dX7_init_5 rfl (lv_at hl 1 rfl) ?_
  refine va_putF (D := (dC, dI)) (ci := 7) (v := .ref w) (ty := (.object RX10)) (C := RX7) (T := TX7) (N := 6) hx hb hts gX7 tyX7 tyX7_ok nmX7 hown hK hP hD hS 0 rfl rfl 0 (by decide) (hts _ u_88) (fun _ h9 => h9) rfl hin rfl (by decide +kernel) rfl rfl (Nat.le_of_ble_eq_true rfl) dX7_init_6 (fun H283 locs hP hD hS => ?_)
  have hP : va_P (dC, dI) vwCl [(h0, .inr (7, [.ref w, .null, .null, .int 0, .null, .null]))] H283 := hP
  have hD : va_D A [(h0, .inr (7, [.ref w, .null, .null, .int 0, .null, .null]))] := hD
  refine lv_aload_n hx hb dX7_init_9 rfl (lv_at hl 0 rfl) ?_
  refine lv_bipush (v := 40) hx hb dX7_init_10 (by decide) ?_
  refine va_newa (atype := .int) (ty := .int) (N' := 40) (a0 := (40, .inl (fun _ => 0))) hx hb (hts _ u_80) rfl hK hP hD hS hA (fun _ => rfl) (by decide) (by decide) (Nat.le_of_ble_eq_true rfl) (Nat.le_of_ble_eq_true rfl) (Nat.le_of_ble_eq_true rfl) dX7_init_12 (fun q284 cA285 H286 hK hP hD hS => ?_)
  refine W.widen (k := 1) (n := 40) (Nat.le_of_ble_eq_true rfl) (Nat.le_of_ble_eq_true rfl) ?_
  have hK : va_K (dC, dI) vwCl [(cA285, .int)] s := hK
  have hP : va_P (dC, dI) vwCl [(h0, .inr (7, [.ref w, .null, .null, .int 0, .null, .null])), (q284, .inl (cA285, 40, .inl (fun _ => 0)))] H286 := hP
  have hD : va_D A [(h0, .inr (7, [.ref w, .null, .null, .int 0, .null, .null])), (q284, .inl (cA285, 40, .inl (fun _ => 0)))] := hD
  have hP := hP.sub (ws' := [(h0, .inr (7, [.ref w, .null, .null, .int 0, .null, .null]))]) [0] rfl
  have hD := hD.sub (ws' := [(h0, .inr (7, [.ref w, .null, .null, .int 0, .null, .null]))]) [0] (by decide) rfl
  have hK := hK.sub (tys' := []) [] rfl
  refine va_putF (D := (dC, dI)) (ci := 7) (v := .ref q284) (ty := (.array .int)) (C := RX7) (T := TX7) (N := 6) hx hb hts gX7 tyX7 tyX7_ok nmX7 hown hK hP hD hS 0 rfl rfl 1 (by decide) (hts _ u_89) (fun _ h9 => h9) rfl hin rfl (by decide +kernel) rfl rfl (Nat.le_of_ble_eq_true rfl) dX7_init_14 (fun H287 locs hP hD hS => ?_)
  have hP : va_P (dC, dI) vwCl [(h0, .inr (7, [.ref w, .ref q284, .null, .int 0, .null, .null]))] H287 := hP
  have hD : va_D A [(h0, .inr (7, [.ref w, .ref q284, .null, .int 0, .null, .null]))] := hD
  refine lv_aload_n hx hb dX7_init_17 rfl (lv_at hl 0 rfl) ?_
  refine lv_bipush (v := 40) hx hb dX7_init_18 (by decide) ?_
  refine va_newa (atype := .long) (ty := .long) (N' := 40) (a0 := (40, .inr (.inl (fun _ => 0)))) hx hb (hts _ u_109) rfl hK hP hD hS hA (fun _ => rfl) (by decide) (by decide) (Nat.le_of_ble_eq_true rfl) (Nat.le_of_ble_eq_true rfl) (Nat.le_of_ble_eq_true rfl) dX7_init_20 (fun q288 cA289 H290 hK hP hD hS => ?_)
  refine W.widen (k := 2) (n := 80) (Nat.le_of_ble_eq_true rfl) (Nat.le_of_ble_eq_true rfl) ?_
  have hK : va_K (dC, dI) vwCl [(cA289, .long)] s := hK
  have hP : va_P (dC, dI) vwCl [(h0, .inr (7, [.ref w, .ref q284, .null, .int 0, .null, .null])), (q288, .inl (cA289, 40, .inr (.inl (fun _ => 0))))] H290 := hP
  have hD : va_D A [(h0, .inr (7, [.ref w, .ref q284, .null, .int 0, .null, .null])), (q288, .inl (cA289, 40, .inr (.inl (fun _ => 0))))] := hD
  refine va_putF (D := (dC, dI)) (ci := 7) (v := .ref q288) (ty := (.array .long)) (C := RX7) (T := TX7) (N := 6) hx hb hts gX7 tyX7 tyX7_ok nmX7 hown hK hP hD hS 0 rfl rfl 2 (by decide) (hts _ u_91) (fun _ h9 => h9) rfl hin rfl (by decide +kernel) rfl rfl (Nat.le_of_ble_eq_true rfl) dX7_init_22 (fun H291 locs hP hD hS => ?_)
  have hP : va_P (dC, dI) vwCl [(h0, .inr (7, [.ref w, .ref q284, .ref q288, .int 0, .null, .null])), (q288, .inl (cA289, 40, .inr (.inl (fun _ => 0))))] H291 := hP
  have hD : va_D A [(h0, .inr (7, [.ref w, .ref q284, .ref q288, .int 0, .null, .null])), (q288, .inl (cA289, 40, .inr (.inl (fun _ => 0))))] := hD
  refine lv_aload_n hx hb dX7_init_25 rfl (lv_at hl 0 rfl) ?_
  refine lv_bipush (v := 10) hx hb dX7_init_26 (by decide) ?_
  refine va_newa (atype := .int) (ty := .int) (N' := 10) (a0 := (10, .inl (fun _ => 0))) hx hb (hts _ u_80) rfl hK hP hD hS hA (fun _ => rfl) (by decide) (by decide) (Nat.le_of_ble_eq_true rfl) (Nat.le_of_ble_eq_true rfl) (Nat.le_of_ble_eq_true rfl) dX7_init_28 (fun q292 cA293 H294 hK hP hD hS => ?_)
  refine W.widen (k := 3) (n := 90) (Nat.le_of_ble_eq_true rfl) (Nat.le_of_ble_eq_true rfl) ?_
  have hK : va_K (dC, dI) vwCl [(cA289, .long), (cA293, .int)] s := hK
  have hP : va_P (dC, dI) vwCl [(h0, .inr (7, [.ref w, .ref q284, .ref q288, .int 0, .null, .null])), (q288, .inl (cA289, 40, .inr (.inl (fun _ => 0)))), (q292, .inl (cA293, 10, .inl (fun _ => 0)))] H294 := hP
  have hD : va_D A [(h0, .inr (7, [.ref w, .ref q284, .ref q288, .int 0, .null, .null])), (q288, .inl (cA289, 40, .inr (.inl (fun _ => 0)))), (q292, .inl (cA293, 10, .inl (fun _ => 0)))] := hD
  have hP := hP.sub (ws' := [(h0, .inr (7, [.ref w, .ref q284, .ref q288, .int 0, .null, .null])), (q288, .inl (cA289, 40, .inr (.inl (fun _ => 0))))]) [0, 1] rfl
  have hD := hD.sub (ws' := [(h0, .inr (7, [.ref w, .ref q284, .ref q288, .int 0, .null, .null])), (q288, .inl (cA289, 40, .inr (.inl (fun _ => 0))))]) [0, 1] (by decide) rfl
  have hK := hK.sub (tys' := [(cA289, .long)]) [0] rfl
  refine va_putF (D := (dC, dI)) (ci := 7) (v := .ref q292) (ty := (.array .int)) (C := RX7) (T := TX7) (N := 6) hx hb hts gX7 tyX7 tyX7_ok nmX7 hown hK hP hD hS 0 rfl rfl 4 (by decide) (hts _ u_94) (fun _ h9 => h9) rfl hin rfl (by decide +kernel) rfl rfl (Nat.le_of_ble_eq_true rfl) dX7_init_30 (fun H295 locs hP hD hS => ?_)
  have hP : va_P (dC, dI) vwCl [(h0, .inr (7, [.ref w, .ref q284, .ref q288, .int 0, .ref q292, .null])), (q288, .inl (cA289, 40, .inr (.inl (fun _ => 0))))] H295 := hP
  have hD : va_D A [(h0, .inr (7, [.ref w, .ref q284, .ref q288, .int 0, .ref q292, .null])), (q288, .inl (cA289, 40, .inr (.inl (fun _ => 0))))] := hD
  refine lv_aload_n hx hb dX7_init_33 rfl (lv_at hl 0 rfl) ?_
  refine lv_bipush (v := 10) hx hb dX7_init_34 (by decide) ?_
  refine va_newa (atype := .int) (ty := .int) (N' := 10) (a0 := (10, .inl (fun _ => 0))) hx hb (hts _ u_80) rfl hK hP hD hS hA (fun _ => rfl) (by decide) (by decide) (Nat.le_of_ble_eq_true rfl) (Nat.le_of_ble_eq_true rfl) (Nat.le_of_ble_eq_true rfl) dX7_init_36 (fun q296 cA297 H298 hK hP hD hS => ?_)
  refine W.widen (k := 4) (n := 100) (Nat.le_of_ble_eq_true rfl) (Nat.le_of_ble_eq_true rfl) ?_
  have hK : va_K (dC, dI) vwCl [(cA289, .long), (cA297, .int)] s := hK
  have hP : va_P (dC, dI) vwCl [(h0, .inr (7, [.ref w, .ref q284, .ref q288, .int 0, .ref q292, .null])), (q288, .inl (cA289, 40, .inr (.inl (fun _ => 0)))), (q296, .inl (cA297, 10, .inl (fun _ => 0)))] H298 := hP
  have hD : va_D A [(h0, .inr (7, [.ref w, .ref q284, .ref q288, .int 0, .ref q292, .null])), (q288, .inl (cA289, 40, .inr (.inl (fun _ => 0)))), (q296, .inl (cA297, 10, .inl (fun _ => 0)))] := hD
  have hP := hP.sub (ws' := [(h0, .inr (7, [.ref w, .ref q284, .ref q288, .int 0, .ref q292, .null])), (q288, .inl (cA289, 40, .inr (.inl (fun _ => 0))))]) [0, 1] rfl
  have hD := hD.sub (ws' := [(h0, .inr (7, [.ref w, .ref q284, .ref q288, .int 0, .ref q292, .null])), (q288, .inl (cA289, 40, .inr (.inl (fun _ => 0))))]) [0, 1] (by decide) rfl
  have hK := hK.sub (tys' := [(cA289, .long)]) [0] rfl
  refine va_putF (D := (dC, dI)) (ci := 7) (v := .ref q296) (ty := (.array .int)) (C := RX7) (T := TX7) (N := 6) hx hb hts gX7 tyX7 tyX7_ok nmX7 hown hK hP hD hS 0 rfl rfl 5 (by decide) (hts _ u_95) (fun _ h9 => h9) rfl hin rfl (by decide +kernel) rfl rfl (Nat.le_of_ble_eq_true rfl) dX7_init_38 (fun H299 locs hP hD hS => ?_)
  have hP : va_P (dC, dI) vwCl [(h0, .inr (7, [.ref w, .ref q284, .ref q288, .int 0, .ref q292, .ref q296])), (q288, .inl (cA289, 40, .inr (.inl (fun _ => 0))))] H299 := hP
  have hD : va_D A [(h0, .inr (7, [.ref w, .ref q284, .ref q288, .int 0, .ref q292, .ref q296])), (q288, .inl (cA289, 40, .inr (.inl (fun _ => 0))))] := hD
  refine W.widen (k := 4) (n := 100) (Nat.le_of_ble_eq_true rfl) (Nat.le_of_ble_eq_true rfl) ?_
  exact W.vret hx hb hr (fun t ht hW => ⟨⟨(), rfl, trivial, ⟨q288, cA289, (fun k => [q284, q292, q296].getD k 0), by rw [ht]; exact hP, va_K.moved hW.alike hK, hD⟩⟩, hS.F ht⟩) hS.2.2 dX7_init_41
set_option maxHeartbeats 4000000 in
set_option maxRecDepth 100000 in
theorem c_X0_init (l : Launch) (dC : Nat → ClassId) (dI : Nat → Nat → Nat) (sz : Nat) (h0 : Nat) : Met l yX0_init (Cond.code yX0_init cX0_init 1 none :: gU) ({ frames := 1, cells := 4, slots := 130, locals := 23 }) (gP dC dI sz [(h0, .inr (0, [.null, .null, .null, .null]))] [] [.ref h0]) (va_Qv (fun (_ : Unit) => True) (fun (_ : Unit) (t9 : State) => va_P (dC, dI) vwCl [] t9.heap ∧ va_K (dC, dI) vwCl [] t9 ∧ va_D (va_A [(h0, .inr (0, [.null, .null, .null, .null]))] sz) []) (va_A [(h0, .inr (0, [.null, .null, .null, .null]))] sz)) 4 130 (va_A [(h0, .inr (0, [.null, .null, .null, .null]))] sz) := by
  refine Met.ofW (cc := cX0_init) (maxL := 1) (ret := none) (by decide) rfl ?_
  intro p e s m args below meth c s₁ B hml hv
  obtain ⟨rfl, hsz, hP, hK, hD0, hE⟩ := hv
  have hx := B.exec
  have hb := B.bytes
  have hr := B.returns
  have hts0 := atoms_spec (ws := Cond.code yX0_init cX0_init 1 none :: gU) B.pre
  have hts : ∀ w ∈ gU, w.before _ s = true := fun w h => hts0 w (List.mem_cons_of_mem _ h)
  have hown : s.vm.findClass RX0 = some m.cls := findClass_of_methodNamed B.named
  have hlocks := B.notSynchronized
  have hin : meth.name = "<init>" := (name_of_methodNamed B.named B.method).1
  subst hsz
  have hD := hD0.self (sz := s.heap.size)
  generalize hAe : va_A [(h0, .inr (0, [.null, .null, .null, .null]))] s.heap.size = A at hD ⊢
  have hA : ∀ q : Nat, s.heap.size ≤ q → A q := fun q h => by rw [← hAe]; exact Or.inr h
  have hS : va_S A s.heap s.heap [] := va_S.rf
  have hP : va_P (dC, dI) vwCl [(h0, .inr (0, [.null, .null, .null, .null]))] s.heap := hP
  have hl := lv_entry ([.ref h0]) (n := 1) (Nat.le_of_ble_eq_true rfl)
  rw [lg_entry_eq]
  generalize (lg_sl ([.ref h0]) ++ List.replicate (1 - (lg_sl ([.ref h0])).length) Slot.unset).toArray = ls at hl ⊢
  have hl : lv_has ls 1 [(0, .ref h0)] := hl
  refine lv_aload_n hx hb dX0_init_0 rfl (lv_at hl 0 rfl) ?_
  refine W.objInit hx hb hown (hts _ u_115) (hts _ u_29) (hts _ u_30) rfl (by rw [hml]; exact hl.1) rfl dX0_init_1 (Nat.le_of_ble_eq_true rfl) (Nat.le_of_ble_eq_true rfl) ?_
  refine W.eq (g2 := F0 m 4 ls []) rfl ?_
  refine lv_aload_n hx hb dX0_init_4 rfl (lv_at hl 0 rfl) ?_
  refine lv_bipush (v := 40) hx hb dX0_init_5 (by decide) ?_
  refine va_newa (atype := .int) (ty := .int) (N' := 40) (a0 := (40, .inl (fun _ => 0))) hx hb (hts _ u_80) rfl hK hP hD hS hA (fun _ => rfl) (by decide) (by decide) (Nat.le_of_ble_eq_true rfl) (Nat.le_of_ble_eq_true rfl) (Nat.le_of_ble_eq_true rfl) dX0_init_7 (fun q300 cA301 H302 hK hP hD hS => ?_)
  refine W.widen (k := 1) (n := 40) (Nat.le_of_ble_eq_true rfl) (Nat.le_of_ble_eq_true rfl) ?_
  have hK : va_K (dC, dI) vwCl [(cA301, .int)] s := hK
  have hP : va_P (dC, dI) vwCl [(h0, .inr (0, [.null, .null, .null, .null])), (q300, .inl (cA301, 40, .inl (fun _ => 0)))] H302 := hP
  have hD : va_D A [(h0, .inr (0, [.null, .null, .null, .null])), (q300, .inl (cA301, 40, .inl (fun _ => 0)))] := hD
  refine va_putF (D := (dC, dI)) (ci := 0) (v := .ref q300) (ty := (.array .int)) (C := RX0) (T := TX0) (N := 4) hx hb hts gX0 tyX0 tyX0_ok nmX0 hown hK hP hD hS 0 rfl rfl 0 (by decide) (hts _ u_117) (fun _ h9 => h9) rfl hin rfl (by decide +kernel) rfl rfl (Nat.le_of_ble_eq_true rfl) dX0_init_9 (fun H303 locs hP hD hS => ?_)
  have hP : va_P (dC, dI) vwCl [(h0, .inr (0, [.ref q300, .null, .null, .null])), (q300, .inl (cA301, 40, .inl (fun _ => 0)))] H303 := hP
  have hD : va_D A [(h0, .inr (0, [.ref q300, .null, .null, .null])), (q300, .inl (cA301, 40, .inl (fun _ => 0)))] := hD
  refine lv_aload_n hx hb dX0_init_12 rfl (lv_at hl 0 rfl) ?_
  refine lv_bipush (v := 40) hx hb dX0_init_13 (by decide) ?_
  refine va_newa (atype := .int) (ty := .int) (N' := 40) (a0 := (40, .inl (fun _ => 0))) hx hb (hts _ u_80) rfl hK hP hD hS hA (fun _ => rfl) (by decide) (by decide) (Nat.le_of_ble_eq_true rfl) (Nat.le_of_ble_eq_true rfl) (Nat.le_of_ble_eq_true rfl) dX0_init_15 (fun q304 cA305 H306 hK hP hD hS => ?_)
  refine W.widen (k := 2) (n := 80) (Nat.le_of_ble_eq_true rfl) (Nat.le_of_ble_eq_true rfl) ?_
  have hK : va_K (dC, dI) vwCl [(cA301, .int), (cA305, .int)] s := hK
  have hP : va_P (dC, dI) vwCl [(h0, .inr (0, [.ref q300, .null, .null, .null])), (q300, .inl (cA301, 40, .inl (fun _ => 0))), (q304, .inl (cA305, 40, .inl (fun _ => 0)))] H306 := hP
  have hD : va_D A [(h0, .inr (0, [.ref q300, .null, .null, .null])), (q300, .inl (cA301, 40, .inl (fun _ => 0))), (q304, .inl (cA305, 40, .inl (fun _ => 0)))] := hD
  have hP := hP.sub (ws' := [(h0, .inr (0, [.ref q300, .null, .null, .null])), (q300, .inl (cA301, 40, .inl (fun _ => 0)))]) [0, 1] rfl
  have hD := hD.sub (ws' := [(h0, .inr (0, [.ref q300, .null, .null, .null])), (q300, .inl (cA301, 40, .inl (fun _ => 0)))]) [0, 1] (by decide) rfl
  have hK := hK.sub (tys' := [(cA301, .int)]) [0] rfl
  refine va_putF (D := (dC, dI)) (ci := 0) (v := .ref q304) (ty := (.array .int)) (C := RX0) (T := TX0) (N := 4) hx hb hts gX0 tyX0 tyX0_ok nmX0 hown hK hP hD hS 0 rfl rfl 1 (by decide) (hts _ u_121) (fun _ h9 => h9) rfl hin rfl (by decide +kernel) rfl rfl (Nat.le_of_ble_eq_true rfl) dX0_init_17 (fun H307 locs hP hD hS => ?_)
  have hP : va_P (dC, dI) vwCl [(h0, .inr (0, [.ref q300, .ref q304, .null, .null])), (q300, .inl (cA301, 40, .inl (fun _ => 0)))] H307 := hP
  have hD : va_D A [(h0, .inr (0, [.ref q300, .ref q304, .null, .null])), (q300, .inl (cA301, 40, .inl (fun _ => 0)))] := hD
  refine lv_aload_n hx hb dX0_init_20 rfl (lv_at hl 0 rfl) ?_
  refine lv_bipush (v := 40) hx hb dX0_init_21 (by decide) ?_
  refine va_newa (atype := .int) (ty := .int) (N' := 40) (a0 := (40, .inl (fun _ => 0))) hx hb (hts _ u_80) rfl hK hP hD hS hA (fun _ => rfl) (by decide) (by decide) (Nat.le_of_ble_eq_true rfl) (Nat.le_of_ble_eq_true rfl) (Nat.le_of_ble_eq_true rfl) dX0_init_23 (fun q308 cA309 H310 hK hP hD hS => ?_)
  refine W.widen (k := 3) (n := 120) (Nat.le_of_ble_eq_true rfl) (Nat.le_of_ble_eq_true rfl) ?_
  have hK : va_K (dC, dI) vwCl [(cA301, .int), (cA309, .int)] s := hK
  have hP : va_P (dC, dI) vwCl [(h0, .inr (0, [.ref q300, .ref q304, .null, .null])), (q300, .inl (cA301, 40, .inl (fun _ => 0))), (q308, .inl (cA309, 40, .inl (fun _ => 0)))] H310 := hP
  have hD : va_D A [(h0, .inr (0, [.ref q300, .ref q304, .null, .null])), (q300, .inl (cA301, 40, .inl (fun _ => 0))), (q308, .inl (cA309, 40, .inl (fun _ => 0)))] := hD
  refine va_putF (D := (dC, dI)) (ci := 0) (v := .ref q308) (ty := (.array .int)) (C := RX0) (T := TX0) (N := 4) hx hb hts gX0 tyX0 tyX0_ok nmX0 hown hK hP hD hS 0 rfl rfl 2 (by decide) (hts _ u_124) (fun _ h9 => h9) rfl hin rfl (by decide +kernel) rfl rfl (Nat.le_of_ble_eq_true rfl) dX0_init_25 (fun H311 locs hP hD hS => ?_)
  have hP : va_P (dC, dI) vwCl [(h0, .inr (0, [.ref q300, .ref q304, .ref q308, .null])), (q300, .inl (cA301, 40, .inl (fun _ => 0))), (q308, .inl (cA309, 40, .inl (fun _ => 0)))] H311 := hP
  have hD : va_D A [(h0, .inr (0, [.ref q300, .ref q304, .ref q308, .null])), (q300, .inl (cA301, 40, .inl (fun _ => 0))), (q308, .inl (cA309, 40, .inl (fun _ => 0)))] := hD
  refine lv_aload_n hx hb dX0_init_28 rfl (lv_at hl 0 rfl) ?_
  refine lv_bipush (v := 10) hx hb dX0_init_29 (by decide) ?_
  refine va_newa (atype := .int) (ty := .int) (N' := 10) (a0 := (10, .inl (fun _ => 0))) hx hb (hts _ u_80) rfl hK hP hD hS hA (fun _ => rfl) (by decide) (by decide) (Nat.le_of_ble_eq_true rfl) (Nat.le_of_ble_eq_true rfl) (Nat.le_of_ble_eq_true rfl) dX0_init_31 (fun q312 cA313 H314 hK hP hD hS => ?_)
  refine W.widen (k := 4) (n := 130) (Nat.le_of_ble_eq_true rfl) (Nat.le_of_ble_eq_true rfl) ?_
  have hK : va_K (dC, dI) vwCl [(cA301, .int), (cA309, .int), (cA313, .int)] s := hK
  have hP : va_P (dC, dI) vwCl [(h0, .inr (0, [.ref q300, .ref q304, .ref q308, .null])), (q300, .inl (cA301, 40, .inl (fun _ => 0))), (q308, .inl (cA309, 40, .inl (fun _ => 0))), (q312, .inl (cA313, 10, .inl (fun _ => 0)))] H314 := hP
  have hD : va_D A [(h0, .inr (0, [.ref q300, .ref q304, .ref q308, .null])), (q300, .inl (cA301, 40, .inl (fun _ => 0))), (q308, .inl (cA309, 40, .inl (fun _ => 0))), (q312, .inl (cA313, 10, .inl (fun _ => 0)))] := hD
  refine va_putF (D := (dC, dI)) (ci := 0) (v := .ref q312) (ty := (.array .int)) (C := RX0) (T := TX0) (N := 4) hx hb hts gX0 tyX0 tyX0_ok nmX0 hown hK hP hD hS 0 rfl rfl 3 (by decide) (hts _ u_126) (fun _ h9 => h9) rfl hin rfl (by decide +kernel) rfl rfl (Nat.le_of_ble_eq_true rfl) dX0_init_33 (fun H315 locs hP hD hS => ?_)
  have hP : va_P (dC, dI) vwCl [(h0, .inr (0, [.ref q300, .ref q304, .ref q308, .ref q312])), (q300, .inl (cA301, 40, .inl (fun _ => 0))), (q308, .inl (cA309, 40, .inl (fun _ => 0))), (q312, .inl (cA313, 10, .inl (fun _ => 0)))] H315 := hP
  have hD : va_D A [(h0, .inr (0, [.ref q300, .ref q304, .ref q308, .ref q312])), (q300, .inl (cA301, 40, .inl (fun _ => 0))), (q308, .inl (cA309, 40, .inl (fun _ => 0))), (q312, .inl (cA313, 10, .inl (fun _ => 0)))] := hD
  refine lv_aload_n hx hb dX0_init_36 rfl (lv_at hl 0 rfl) ?_
  refine va_get (D := (dC, dI)) (ci := 0) (v := .ref q300) (C := RX0) (T := TX0) (N := 4) hx hb hts gX0 hown hK hP 0 rfl rfl 0 (by decide) (hts _ u_117) (fun _ h9 => h9) rfl dX0_init_37 ?_
  refine lv_iconst (v := (-1)) hx hb dX0_init_40 (by decide) ?_
  have hPc := hP.sub (ws' := [(q300, .inl (cA301, 40, .inl (fun _ => 0)))]) [1] rfl
  have hDc := hD.sub (ws' := [(q300, .inl (cA301, 40, .inl (fun _ => 0)))]) [1] (by decide) rfl
  have hKc := hK.sub (tys' := [(cA301, .int)]) [0] rfl
  have hFc := va_free (wc := [(q300, .inl (cA301, 40, .inl (fun _ => 0)))]) hD hS hA [1] rfl
  refine va_callv (va_runS (As := [.ref q300, .int (-1)]) (rest := []) ⟨hx, hb, hml, hown, hts⟩ (c_J7_fill_53178 l dC dI H315.size q300 cA301 40 (by decide) (fun _ => 0) (-1)) (va_cwS 2 hts (gS u_116 u_38 u_3 u_39) rfl rfl rfl (by decide +kernel) ⟨Nat.le_of_ble_eq_true rfl, Nat.le_of_ble_eq_true rfl⟩) ⟨gP_blind, gP_call hPc hKc hDc hE⟩ rfl rfl hl.1 rfl (lv_room (Nat.le_of_ble_eq_true rfl)) dX0_init_41 ⟨(Nat.le_of_ble_eq_true rfl), (Nat.le_of_ble_eq_true rfl)⟩) hS (fun q _ h => hFc q h) hFc (fun u9 t9 H316 locs ht hvm hw hB hz1 hk1 hS => ?_)
  obtain ⟨f2318, hP1, hK1, hD1⟩ := hB
  rw [ht] at hP1
  have hK1 := va_K.moved hvm.symm hK1
  obtain ⟨hP, hD⟩ := va_join (wr := [(h0, .inr (0, [.ref q300, .ref q304, .ref q308, .ref q312])), (q308, .inl (cA309, 40, .inl (fun _ => 0))), (q312, .inl (cA313, 10, .inl (fun _ => 0)))]) (w1 := [(q300, .inl (cA301, 40, .inl f2318))]) hP hD [1] [0, 2, 3] rfl rfl (by decide) (by decide) hk1 hFc hP1 hD1
  have hK := (hK.sub (tys' := [(cA309, .int), (cA313, .int)]) [1, 2] rfl).app hK1
  have hK : va_K (dC, dI) vwCl [(cA309, .int), (cA313, .int), (cA301, .int)] s := hK
  have hP : va_P (dC, dI) vwCl [(h0, .inr (0, [.ref q300, .ref q304, .ref q308, .ref q312])), (q308, .inl (cA309, 40, .inl (fun _ => 0))), (q312, .inl (cA313, 10, .inl (fun _ => 0))), (q300, .inl (cA301, 40, .inl f2318))] H316 := hP
  have hD : va_D A [(h0, .inr (0, [.ref q300, .ref q304, .ref q308, .ref q312])), (q308, .inl (cA309, 40, .inl (fun _ => 0))), (q312, .inl (cA313, 10, .inl (fun _ => 0))), (q300, .inl (cA301, 40, .inl f2318))] := hD
  refine lv_aload_n hx hb dX0_init_44 rfl (lv_at hl 0 rfl) ?_
  refine va_get (D := (dC, dI)) (ci := 0) (v := .ref q308) (C := RX0) (T := TX0) (N := 4) hx hb hts gX0 hown hK hP 0 rfl rfl 2 (by decide) (hts _ u_124) (fun _ h9 => h9) rfl dX0_init_45 ?_
  refine lv_iconst (v := (-1)) hx hb dX0_init_48 (by decide) ?_
  have hPc := hP.sub (ws' := [(q308, .inl (cA309, 40, .inl (fun _ => 0)))]) [1] rfl
  have hDc := hD.sub (ws' := [(q308, .inl (cA309, 40, .inl (fun _ => 0)))]) [1] (by decide) rfl
  have hKc := hK.sub (tys' := [(cA309, .int)]) [0] rfl
  have hFc := va_free (wc := [(q308, .inl (cA309, 40, .inl (fun _ => 0)))]) hD hS hA [1] rfl
  refine va_callv (va_runS (As := [.ref q308, .int (-1)]) (rest := []) ⟨hx, hb, hml, hown, hts⟩ (c_J7_fill_53178 l dC dI H316.size q308 cA309 40 (by decide) (fun _ => 0) (-1)) (va_cwS 2 hts (gS u_116 u_38 u_3 u_39) rfl rfl rfl (by decide +kernel) ⟨Nat.le_of_ble_eq_true rfl, Nat.le_of_ble_eq_true rfl⟩) ⟨gP_blind, gP_call hPc hKc hDc hE⟩ rfl rfl hl.1 rfl (lv_room (Nat.le_of_ble_eq_true rfl)) dX0_init_49 ⟨(Nat.le_of_ble_eq_true rfl), (Nat.le_of_ble_eq_true rfl)⟩) hS (fun q _ h => hFc q h) hFc (fun u9 t9 H319 locs ht hvm hw hB hz1 hk1 hS => ?_)
  obtain ⟨f2321, hP1, hK1, hD1⟩ := hB
  rw [ht] at hP1
  have hK1 := va_K.moved hvm.symm hK1
  obtain ⟨hP, hD⟩ := va_join (wr := [(h0, .inr (0, [.ref q300, .ref q304, .ref q308, .ref q312])), (q312, .inl (cA313, 10, .inl (fun _ => 0))), (q300, .inl (cA301, 40, .inl f2318))]) (w1 := [(q308, .inl (cA309, 40, .inl f2321))]) hP hD [1] [0, 2, 3] rfl rfl (by decide) (by decide) hk1 hFc hP1 hD1
  have hK := (hK.sub (tys' := [(cA313, .int), (cA301, .int)]) [1, 2] rfl).app hK1
  have hK : va_K (dC, dI) vwCl [(cA313, .int), (cA301, .int), (cA309, .int)] s := hK
  have hP : va_P (dC, dI) vwCl [(h0, .inr (0, [.ref q300, .ref q304, .ref q308, .ref q312])), (q312, .inl (cA313, 10, .inl (fun _ => 0))), (q300, .inl (cA301, 40, .inl f2318)), (q308, .inl (cA309, 40, .inl f2321))] H319 := hP
  have hD : va_D A [(h0, .inr (0, [.ref q300, .ref q304, .ref q308, .ref q312])), (q312, .inl (cA313, 10, .inl (fun _ => 0))), (q300, .inl (cA301, 40, .inl f2318)), (q308, .inl (cA309, 40, .inl f2321))] := hD
  refine lv_aload_n hx hb dX0_init_52 rfl (lv_at hl 0 rfl) ?_
  refine va_get (D := (dC, dI)) (ci := 0) (v := .ref q312) (C := RX0) (T := TX0) (N := 4) hx hb hts gX0 hown hK hP 0 rfl rfl 3 (by decide) (hts _ u_126) (fun _ h9 => h9) rfl dX0_init_53 ?_
  refine lv_iconst (v := (-1)) hx hb dX0_init_56 (by decide) ?_
  have hPc := hP.sub (ws' := [(q312, .inl (cA313, 10, .inl (fun _ => 0)))]) [1] rfl
  have hDc := hD.sub (ws' := [(q312, .inl (cA313, 10, .inl (fun _ => 0)))]) [1] (by decide) rfl
  have hKc := hK.sub (tys' := [(cA313, .int)]) [0] rfl
  have hFc := va_free (wc := [(q312, .inl (cA313, 10, .inl (fun _ => 0)))]) hD hS hA [1] rfl
  refine va_callv (va_runS (As := [.ref q312, .int (-1)]) (rest := []) ⟨hx, hb, hml, hown, hts⟩ (c_J7_fill_53178 l dC dI H319.size q312 cA313 10 (by decide) (fun _ => 0) (-1)) (va_cwS 2 hts (gS u_116 u_38 u_3 u_39) rfl rfl rfl (by decide +kernel) ⟨Nat.le_of_ble_eq_true rfl, Nat.le_of_ble_eq_true rfl⟩) ⟨gP_blind, gP_call hPc hKc hDc hE⟩ rfl rfl hl.1 rfl (lv_room (Nat.le_of_ble_eq_true rfl)) dX0_init_57 ⟨(Nat.le_of_ble_eq_true rfl), (Nat.le_of_ble_eq_true rfl)⟩) hS (fun q _ h => hFc q h) hFc (fun u9 t9 H322 locs ht hvm hw hB hz1 hk1 hS => ?_)
  obtain ⟨f2324, hP1, hK1, hD1⟩ := hB
  rw [ht] at hP1
  have hK1 := va_K.moved hvm.symm hK1
  obtain ⟨hP, hD⟩ := va_join (wr := [(h0, .inr (0, [.ref q300, .ref q304, .ref q308, .ref q312])), (q300, .inl (cA301, 40, .inl f2318)), (q308, .inl (cA309, 40, .inl f2321))]) (w1 := [(q312, .inl (cA313, 10, .inl f2324))]) hP hD [1] [0, 2, 3] rfl rfl (by decide) (by decide) hk1 hFc hP1 hD1
  have hK := (hK.sub (tys' := [(cA301, .int), (cA309, .int)]) [1, 2] rfl).app hK1
  have hK : va_K (dC, dI) vwCl [(cA301, .int), (cA309, .int), (cA313, .int)] s := hK
  have hP : va_P (dC, dI) vwCl [(h0, .inr (0, [.ref q300, .ref q304, .ref q308, .ref q312])), (q300, .inl (cA301, 40, .inl f2318)), (q308, .inl (cA309, 40, .inl f2321)), (q312, .inl (cA313, 10, .inl f2324))] H322 := hP
  have hD : va_D A [(h0, .inr (0, [.ref q300, .ref q304, .ref q308, .ref q312])), (q300, .inl (cA301, 40, .inl f2318)), (q308, .inl (cA309, 40, .inl f2321)), (q312, .inl (cA313, 10, .inl f2324))] := hD
  have hP := hP.sub (ws' := []) [] rfl
  have hD := hD.sub (ws' := []) [] (by decide) rfl
  have hK := hK.sub (tys' := []) [] rfl
  refine W.widen (k := 4) (n := 130) (Nat.le_of_ble_eq_true rfl) (Nat.le_of_ble_eq_true rfl) ?_
  exact W.vret hx hb hr (fun t ht hW => ⟨⟨(), rfl, trivial, ⟨by rw [ht]; exact hP, va_K.moved hW.alike hK, hD⟩⟩, hS.F ht⟩) hS.2.2 dX0_init_60
set_option maxHeartbeats 4000000 in
set_option maxRecDepth 100000 in
theorem c_X3_init (l : Launch) (dC : Nat → ClassId) (dI : Nat → Nat → Nat) (sz : Nat) (h0 : Nat) : Met l yX3_init (Cond.code yX3_init cX3_init 1 none :: gU) ({ frames := 1, cells := 2, slots := 8, locals := 12 }) (gP dC dI sz [(h0, .inr (3, [.int 0, .int 0, .null, .null]))] [] [.ref h0]) (va_Qv (fun (_ : Unit) => True) (fun (_ : Unit) (t9 : State) => ∃ (g9 : Nat → Nat), va_P (dC, dI) vwCl [(h0, .inr (3, [.int 0, .int 0, .ref (g9 0), .ref (g9 1)]))] t9.heap ∧ va_K (dC, dI) vwCl [] t9 ∧ va_D (va_A [(h0, .inr (3, [.int 0, .int 0, .null, .null]))] sz) [(h0, .inr (3, [.int 0, .int 0, .ref (g9 0), .ref (g9 1)]))]) (va_A [(h0, .inr (3, [.int 0, .int 0, .null, .null]))] sz)) 2 8 (va_A [(h0, .inr (3, [.int 0, .int 0, .null, .null]))] sz) := by
  refine Met.ofW (cc := cX3_init) (maxL := 1) (ret := none) (by decide) rfl ?_
  intro p e s m args below meth c s₁ B hml hv
  obtain ⟨rfl, hsz, hP, hK, hD0, hE⟩ := hv
  have hx := B.exec
  have hb := B.bytes
  have hr := B.returns
  have hts0 := atoms_spec (ws := Cond.code yX3_init cX3_init 1 none :: gU) B.pre
  have hts : ∀ w ∈ gU, w.before _ s = true := fun w h => hts0 w (List.mem_cons_of_mem _ h)
  have hown : s.vm.findClass RX3 = some m.cls := findClass_of_methodNamed B.named
  have hlocks := B.notSynchronized
  have hin : meth.name = "<init>" := (name_of_methodNamed B.named B.method).1
  subst hsz
  have hD := hD0.self (sz := s.heap.size)
  generalize hAe : va_A [(h0, .inr (3, [.int 0, .int 0, .null, .null]))] s.heap.size = A at hD ⊢
  have hA : ∀ q : Nat, s.heap.size ≤ q → A q := fun q h => by rw [← hAe]; exact Or.inr h
  have hS : va_S A s.heap s.heap [] := va_S.rf
  have hP : va_P (dC, dI) vwCl [(h0, .inr (3, [.int 0, .int 0, .null, .null]))] s.heap := hP
  have hl := lv_entry ([.ref h0]) (n := 1) (Nat.le_of_ble_eq_true rfl)
  rw [lg_entry_eq]
  generalize (lg_sl ([.ref h0]) ++ List.replicate (1 - (lg_sl ([.ref h0])).length) Slot.unset).toArray = ls at hl ⊢
  have hl : lv_has ls 1 [(0, .ref h0)] := hl
  refine lv_aload_n hx hb dX3_init_0 rfl (lv_at hl 0 rfl) ?_
  refine W.objInit hx hb hown (hts _ u_152) (hts _ u_29) (hts _ u_30) rfl (by rw [hml]; exact hl.1) rfl dX3_init_1 (Nat.le_of_ble_eq_true rfl) (Nat.le_of_ble_eq_true rfl) ?_
  refine W.eq (g2 := F0 m 4 ls []) rfl ?_
  refine lv_aload_n hx hb dX3_init_4 rfl (lv_at hl 0 rfl) ?_
  refine lv_iconst (v := 4) hx hb dX3_init_5 (by decide) ?_
  refine va_newa (atype := .int) (ty := .int) (N' := 4) (a0 := (4, .inl (fun _ => 0))) hx hb (hts _ u_80) rfl hK hP hD hS hA (fun _ => rfl) (by decide) (by decide) (Nat.le_of_ble_eq_true rfl) (Nat.le_of_ble_eq_true rfl) (Nat.le_of_ble_eq_true rfl) dX3_init_6 (fun q325 cA326 H327 hK hP hD hS => ?_)
  refine W.widen (k := 1) (n := 4) (Nat.le_of_ble_eq_true rfl) (Nat.le_of_ble_eq_true rfl) ?_
  have hK : va_K (dC, dI) vwCl [(cA326, .int)] s := hK
  have hP : va_P (dC, dI) vwCl [(h0, .inr (3, [.int 0, .int 0, .null, .null])), (q325, .inl (cA326, 4, .inl (fun _ => 0)))] H327 := hP
  have hD : va_D A [(h0, .inr (3, [.int 0, .int 0, .null, .null])), (q325, .inl (cA326, 4, .inl (fun _ => 0)))] := hD
  have hP := hP.sub (ws' := [(h0, .inr (3, [.int 0, .int 0, .null, .null]))]) [0] rfl
  have hD := hD.sub (ws' := [(h0, .inr (3, [.int 0, .int 0, .null, .null]))]) [0] (by decide) rfl
  have hK := hK.sub (tys' := []) [] rfl
  refine va_putF (D := (dC, dI)) (ci := 3) (v := .ref q325) (ty := (.array .int)) (C := RX3) (T := TX3) (N := 4) hx hb hts gX3 tyX3 tyX3_ok nmX3 hown hK hP hD hS 0 rfl rfl 2 (by decide) (hts _ u_155) (fun _ h9 => h9) rfl hin rfl (by decide +kernel) rfl rfl (Nat.le_of_ble_eq_true rfl) dX3_init_8 (fun H328 locs hP hD hS => ?_)
  have hP : va_P (dC, dI) vwCl [(h0, .inr (3, [.int 0, .int 0, .ref q325, .null]))] H328 := hP
  have hD : va_D A [(h0, .inr (3, [.int 0, .int 0, .ref q325, .null]))] := hD
  refine lv_aload_n hx hb dX3_init_11 rfl (lv_at hl 0 rfl) ?_
  refine lv_iconst (v := 4) hx hb dX3_init_12 (by decide) ?_
  refine va_newa (atype := .int) (ty := .int) (N' := 4) (a0 := (4, .inl (fun _ => 0))) hx hb (hts _ u_80) rfl hK hP hD hS hA (fun _ => rfl) (by decide) (by decide) (Nat.le_of_ble_eq_true rfl) (Nat.le_of_ble_eq_true rfl) (Nat.le_of_ble_eq_true rfl) dX3_init_13 (fun q329 cA330 H331 hK hP hD hS => ?_)
  refine W.widen (k := 2) (n := 8) (Nat.le_of_ble_eq_true rfl) (Nat.le_of_ble_eq_true rfl) ?_
  have hK : va_K (dC, dI) vwCl [(cA330, .int)] s := hK
  have hP : va_P (dC, dI) vwCl [(h0, .inr (3, [.int 0, .int 0, .ref q325, .null])), (q329, .inl (cA330, 4, .inl (fun _ => 0)))] H331 := hP
  have hD : va_D A [(h0, .inr (3, [.int 0, .int 0, .ref q325, .null])), (q329, .inl (cA330, 4, .inl (fun _ => 0)))] := hD
  have hP := hP.sub (ws' := [(h0, .inr (3, [.int 0, .int 0, .ref q325, .null]))]) [0] rfl
  have hD := hD.sub (ws' := [(h0, .inr (3, [.int 0, .int 0, .ref q325, .null]))]) [0] (by decide) rfl
  have hK := hK.sub (tys' := []) [] rfl
  refine va_putF (D := (dC, dI)) (ci := 3) (v := .ref q329) (ty := (.array .int)) (C := RX3) (T := TX3) (N := 4) hx hb hts gX3 tyX3 tyX3_ok nmX3 hown hK hP hD hS 0 rfl rfl 3 (by decide) (hts _ u_156) (fun _ h9 => h9) rfl hin rfl (by decide +kernel) rfl rfl (Nat.le_of_ble_eq_true rfl) dX3_init_15 (fun H332 locs hP hD hS => ?_)
  have hP : va_P (dC, dI) vwCl [(h0, .inr (3, [.int 0, .int 0, .ref q325, .ref q329]))] H332 := hP
  have hD : va_D A [(h0, .inr (3, [.int 0, .int 0, .ref q325, .ref q329]))] := hD
  refine W.widen (k := 2) (n := 8) (Nat.le_of_ble_eq_true rfl) (Nat.le_of_ble_eq_true rfl) ?_
  exact W.vret hx hb hr (fun t ht hW => ⟨⟨(), rfl, trivial, ⟨(fun k => [q325, q329].getD k 0), by rw [ht]; exact hP, va_K.moved hW.alike hK, hD⟩⟩, hS.F ht⟩) hS.2.2 dX3_init_18
set_option maxHeartbeats 4000000 in
set_option maxRecDepth 100000 in
theorem c_X5_init (l : Launch) (dC : Nat → ClassId) (dI : Nat → Nat → Nat) (sz : Nat) (h0 : Nat) : Met l yX5_init (Cond.code yX5_init cX5_init 2 none :: gU) ({ frames := 2, cells := 19, slots := 105, locals := 32 }) (gP dC dI sz [(h0, .inr (5, [.int 0, .null, .null, .null, .int 0, .null, .null, .null, .null, .null, .null, .int 0, .int 0, .null]))] [] [.ref h0]) (va_Qv (fun (_ : Unit) => True) (fun (_ : Unit) (t9 : State) => ∃ (g9 : Nat → Nat), va_P (dC, dI) vwCl [(h0, .inr (5, [.int 0, .ref (g9 0), .ref (g9 1), .ref (g9 2), .int 0, .ref (g9 3), .ref (g9 4), .ref (g9 5), .ref (g9 6), .ref (g9 7), .ref (g9 8), .int 0, .int 0, .ref (g9 9)]))] t9.heap ∧ va_K (dC, dI) vwCl [] t9 ∧ va_D (va_A [(h0, .inr (5, [.int 0, .null, .null, .null, .int 0, .null, .null, .null, .null, .null, .null, .int 0, .int 0, .null]))] sz) [(h0, .inr (5, [.int 0, .ref (g9 0), .ref (g9 1), .ref (g9 2), .int 0, .ref (g9 3), .ref (g9 4), .ref (g9 5), .ref (g9 6), .ref (g9 7), .ref (g9 8), .int 0, .int 0, .ref (g9 9)]))]) (va_A [(h0, .inr (5, [.int 0, .null, .null, .null, .int 0, .null, .null, .null, .null, .null, .null, .int 0, .int 0, .null]))] sz)) 19 105 (va_A [(h0, .inr (5, [.int 0, .null, .null, .null, .int 0, .null, .null, .null, .null, .null, .null, .int 0, .int 0, .null]))] sz) := by
  refine Met.ofW (cc := cX5_init) (maxL := 2) (ret := none) (by decide) rfl ?_
  intro p e s m args below meth c s₁ B hml hv
  obtain ⟨rfl, hsz, hP, hK, hD0, hE⟩ := hv
  have hx := B.exec
  have hb := B.bytes
  have hr := B.returns
  have hts0 := atoms_spec (ws := Cond.code yX5_init cX5_init 2 none :: gU) B.pre
  have hts : ∀ w ∈ gU, w.before _ s = true := fun w h => hts0 w (List.mem_cons_of_mem _ h)
  have hown : s.vm.findClass RX5 = some m.cls := findClass_of_methodNamed B.named
  have hlocks := B.notSynchronized
  have hin : meth.name = "<init>" := (name_of_methodNamed B.named B.method).1
  subst hsz
  have hD := hD0.self (sz := s.heap.size)
  generalize hAe : va_A [(h0, .inr (5, [.int 0, .null, .null, .null, .int 0, .null, .null, .null, .null, .null, .null, .int 0, .int 0, .null]))] s.heap.size = A at hD ⊢
  have hA : ∀ q : Nat, s.heap.size ≤ q → A q := fun q h => by rw [← hAe]; exact Or.inr h
  have hS : va_S A s.heap s.heap [] := va_S.rf
  have hP : va_P (dC, dI) vwCl [(h0, .inr (5, [.int 0, .null, .null, .null, .int 0, .null, .null, .null, .null, .null, .null, .int 0, .int 0, .null]))] s.heap := hP
  have hl := lv_entry ([.ref h0]) (n := 2) (Nat.le_of_ble_eq_true rfl)
  rw [lg_entry_eq]
  generalize (lg_sl ([.ref h0]) ++ List.replicate (2 - (lg_sl ([.ref h0])).length) Slot.unset).toArray = ls at hl ⊢
  have hl : lv_has ls 2 [(0, .ref h0)] := hl
  refine lv_aload_n hx hb dX5_init_0 rfl (lv_at hl 0 rfl) ?_
  refine W.objInit hx hb hown (hts _ u_145) (hts _ u_29) (hts _ u_30) rfl (by rw [hml]; exact hl.1) rfl dX5_init_1 (Nat.le_of_ble_eq_true rfl) (Nat.le_of_ble_eq_true rfl) ?_
  refine W.eq (g2 := F0 m 4 ls []) rfl ?_
  refine lv_aload_n hx hb dX5_init_4 rfl (lv_at hl 0 rfl) ?_
  refine lv_bipush (v := 6) hx hb dX5_init_5 (by decide) ?_
  refine va_newa (atype := .int) (ty := .int) (N' := 6) (a0 := (6, .inl (fun _ => 0))) hx hb (hts _ u_80) rfl hK hP hD hS hA (fun _ => rfl) (by decide) (by decide) (Nat.le_of_ble_eq_true rfl) (Nat.le_of_ble_eq_true rfl) (Nat.le_of_ble_eq_true rfl) dX5_init_7 (fun q333 cA334 H335 hK hP hD hS => ?_)
  refine W.widen (k := 1) (n := 6) (Nat.le_of_ble_eq_true rfl) (Nat.le_of_ble_eq_true rfl) ?_
  have hK : va_K (dC, dI) vwCl [(cA334, .int)] s := hK
  have hP : va_P (dC, dI) vwCl [(h0, .inr (5, [.int 0, .null, .null, .null, .int 0, .null, .null, .null, .null, .null, .null, .int 0, .int 0, .null])), (q333, .inl (cA334, 6, .inl (fun _ => 0)))] H335 := hP
  have hD : va_D A [(h0, .inr (5, [.int 0, .null, .null, .null, .int 0, .null, .null, .null, .null, .null, .null, .int 0, .int 0, .null])), (q333, .inl (cA334, 6, .inl (fun _ => 0)))] := hD
  have hP := hP.sub (ws' := [(h0, .inr (5, [.int 0, .null, .null, .null, .int 0, .null, .null, .null, .null, .null, .null, .int 0, .int 0, .null]))]) [0] rfl
  have hD := hD.sub (ws' := [(h0, .inr (5, [.int 0, .null, .null, .null, .int 0, .null, .null, .null, .null, .null, .null, .int 0, .int 0, .null]))]) [0] (by decide) rfl
  have hK := hK.sub (tys' := []) [] rfl
  refine va_putF (D := (dC, dI)) (ci := 5) (v := .ref q333) (ty := (.array .int)) (C := RX5) (T := TX5) (N := 14) hx hb hts gX5 tyX5 tyX5_ok nmX5 hown hK hP hD hS 0 rfl rfl 1 (by decide) (hts _ u_168) (fun _ h9 => h9) rfl hin rfl (by decide +kernel) rfl rfl (Nat.le_of_ble_eq_true rfl) dX5_init_9 (fun H336 locs hP hD hS => ?_)
  have hP : va_P (dC, dI) vwCl [(h0, .inr (5, [.int 0, .ref q333, .null, .null, .int 0, .null, .null, .null, .null, .null, .null, .int 0, .int 0, .null]))] H336 := hP
  have hD : va_D A [(h0, .inr (5, [.int 0, .ref q333, .null, .null, .int 0, .null, .null, .null, .null, .null, .null, .int 0, .int 0, .null]))] := hD
  refine lv_aload_n hx hb dX5_init_12 rfl (lv_at hl 0 rfl) ?_
  refine lv_bipush (v := 6) hx hb dX5_init_13 (by decide) ?_
  refine va_newa (atype := .int) (ty := .int) (N' := 6) (a0 := (6, .inl (fun _ => 0))) hx hb (hts _ u_80) rfl hK hP hD hS hA (fun _ => rfl) (by decide) (by decide) (Nat.le_of_ble_eq_true rfl) (Nat.le_of_ble_eq_true rfl) (Nat.le_of_ble_eq_true rfl) dX5_init_15 (fun q337 cA338 H339 hK hP hD hS => ?_)
  refine W.widen (k := 2) (n := 12) (Nat.le_of_ble_eq_true rfl) (Nat.le_of_ble_eq_true rfl) ?_
  have hK : va_K (dC, dI) vwCl [(cA338, .int)] s := hK
  have hP : va_P (dC, dI) vwCl [(h0, .inr (5, [.int 0, .ref q333, .null, .null, .int 0, .null, .null, .null, .null, .null, .null, .int 0, .int 0, .null])), (q337, .inl (cA338, 6, .inl (fun _ => 0)))] H339 := hP
  have hD : va_D A [(h0, .inr (5, [.int 0, .ref q333, .null, .null, .int 0, .null, .null, .null, .null, .null, .null, .int 0, .int 0, .null])), (q337, .inl (cA338, 6, .inl (fun _ => 0)))] := hD
  have hP := hP.sub (ws' := [(h0, .inr (5, [.int 0, .ref q333, .null, .null, .int 0, .null, .null, .null, .null, .null, .null, .int 0, .int 0, .null]))]) [0] rfl
  have hD := hD.sub (ws' := [(h0, .inr (5, [.int 0, .ref q333, .null, .null, .int 0, .null, .null, .null, .null, .null, .null, .int 0, .int 0, .null]))]) [0] (by decide) rfl
  have hK := hK.sub (tys' := []) [] rfl
  refine va_putF (D := (dC, dI)) (ci := 5) (v := .ref q337) (ty := (.array .int)) (C := RX5) (T := TX5) (N := 14) hx hb hts gX5 tyX5 tyX5_ok nmX5 hown hK hP hD hS 0 rfl rfl 2 (by decide) (hts _ u_170) (fun _ h9 => h9) rfl hin rfl (by decide +kernel) rfl rfl (Nat.le_of_ble_eq_true rfl) dX5_init_17 (fun H340 locs hP hD hS => ?_)
  have hP : va_P (dC, dI) vwCl [(h0, .inr (5, [.int 0, .ref q333, .ref q337, .null, .int 0, .null, .null, .null, .null, .null, .null, .int 0, .int 0, .null]))] H340 := hP
  have hD : va_D A [(h0, .inr (5, [.int 0, .ref q333, .ref q337, .null, .int 0, .null, .null, .null, .null, .null, .null, .int 0, .int 0, .null]))] := hD
  refine lv_aload_n hx hb dX5_init_20 rfl (lv_at hl 0 rfl) ?_
  refine lv_bipush (v := 6) hx hb dX5_init_21 (by decide) ?_
  refine va_newa (atype := .int) (ty := .int) (N' := 6) (a0 := (6, .inl (fun _ => 0))) hx hb (hts _ u_80) rfl hK hP hD hS hA (fun _ => rfl) (by decide) (by decide) (Nat.le_of_ble_eq_true rfl) (Nat.le_of_ble_eq_true rfl) (Nat.le_of_ble_eq_true rfl) dX5_init_23 (fun q341 cA342 H343 hK hP hD hS => ?_)
  refine W.widen (k := 3) (n := 18) (Nat.le_of_ble_eq_true rfl) (Nat.le_of_ble_eq_true rfl) ?_
  have hK : va_K (dC, dI) vwCl [(cA342, .int)] s := hK
  have hP : va_P (dC, dI) vwCl [(h0, .inr (5, [.int 0, .ref q333, .ref q337, .null, .int 0, .null, .null, .null, .null, .null, .null, .int 0, .int 0, .null])), (q341, .inl (cA342, 6, .inl (fun _ => 0)))] H343 := hP
  have hD : va_D A [(h0, .inr (5, [.int 0, .ref q333, .ref q337, .null, .int 0, .null, .null, .null, .null, .null, .null, .int 0, .int 0, .null])), (q341, .inl (cA342, 6, .inl (fun _ => 0)))] := hD
  have hP := hP.sub (ws' := [(h0, .inr (5, [.int 0, .ref q333, .ref q337, .null, .int 0, .null, .null, .null, .null, .null, .null, .int 0, .int 0, .null]))]) [0] rfl
  have hD := hD.sub (ws' := [(h0, .inr (5, [.int 0, .ref q333, .ref q337, .null, .int 0, .null, .null, .null, .null, .null, .null, .int 0, .int 0, .null]))]) [0] (by decide) rfl
  have hK := hK.sub (tys' := []) [] rfl
  refine va_putF (D := (dC, dI)) (ci := 5) (v := .ref q341) (ty := (.array .int)) (C := RX5) (T := TX5) (N := 14) hx hb hts gX5 tyX5 tyX5_ok nmX5 hown hK hP hD hS 0 rfl rfl 3 (by decide) (hts _ u_173) (fun _ h9 => h9) rfl hin rfl (by decide +kernel) rfl rfl (Nat.le_of_ble_eq_true rfl) dX5_init_25 (fun H344 locs hP hD hS => ?_)
  have hP : va_P (dC, dI) vwCl [(h0, .inr (5, [.int 0, .ref q333, .ref q337, .ref q341, .int 0, .null, .null, .null, .null, .null, .null, .int 0, .int 0, .null]))] H344 := hP
  have hD : va_D A [(h0, .inr (5, [.int 0, .ref q333, .ref q337, .ref q341, .int 0, .null, .null, .null, .null, .null, .null, .int 0, .int 0, .null]))] := hD
  refine lv_aload_n hx hb dX5_init_28 rfl (lv_at hl 0 rfl) ?_
  refine lv_bipush (v := 8) hx hb dX5_init_29 (by decide) ?_
  refine va_newa (atype := .int) (ty := .int) (N' := 8) (a0 := (8, .inl (fun _ => 0))) hx hb (hts _ u_80) rfl hK hP hD hS hA (fun _ => rfl) (by decide) (by decide) (Nat.le_of_ble_eq_true rfl) (Nat.le_of_ble_eq_true rfl) (Nat.le_of_ble_eq_true rfl) dX5_init_31 (fun q345 cA346 H347 hK hP hD hS => ?_)
  refine W.widen (k := 4) (n := 26) (Nat.le_of_ble_eq_true rfl) (Nat.le_of_ble_eq_true rfl) ?_
  have hK : va_K (dC, dI) vwCl [(cA346, .int)] s := hK
  have hP : va_P (dC, dI) vwCl [(h0, .inr (5, [.int 0, .ref q333, .ref q337, .ref q341, .int 0, .null, .null, .null, .null, .null, .null, .int 0, .int 0, .null])), (q345, .inl (cA346, 8, .inl (fun _ => 0)))] H347 := hP
  have hD : va_D A [(h0, .inr (5, [.int 0, .ref q333, .ref q337, .ref q341, .int 0, .null, .null, .null, .null, .null, .null, .int 0, .int 0, .null])), (q345, .inl (cA346, 8, .inl (fun _ => 0)))] := hD
  have hP := hP.sub (ws' := [(h0, .inr (5, [.int 0, .ref q333, .ref q337, .ref q341, .int 0, .null, .null, .null, .null, .null, .null, .int 0, .int 0, .null]))]) [0] rfl
  have hD := hD.sub (ws' := [(h0, .inr (5, [.int 0, .ref q333, .ref q337, .ref q341, .int 0, .null, .null, .null, .null, .null, .null, .int 0, .int 0, .null]))]) [0] (by decide) rfl
  have hK := hK.sub (tys' := []) [] rfl
  refine va_putF (D := (dC, dI)) (ci := 5) (v := .ref q345) (ty := (.array .int)) (C := RX5) (T := TX5) (N := 14) hx hb hts gX5 tyX5 tyX5_ok nmX5 hown hK hP hD hS 0 rfl rfl 5 (by decide) (hts _ u_178) (fun _ h9 => h9) rfl hin rfl (by decide +kernel) rfl rfl (Nat.le_of_ble_eq_true rfl) dX5_init_33 (fun H348 locs hP hD hS => ?_)
  have hP : va_P (dC, dI) vwCl [(h0, .inr (5, [.int 0, .ref q333, .ref q337, .ref q341, .int 0, .ref q345, .null, .null, .null, .null, .null, .int 0, .int 0, .null]))] H348 := hP
  have hD : va_D A [(h0, .inr (5, [.int 0, .ref q333, .ref q337, .ref q341, .int 0, .ref q345, .null, .null, .null, .null, .null, .int 0, .int 0, .null]))] := hD
  refine lv_aload_n hx hb dX5_init_36 rfl (lv_at hl 0 rfl) ?_
  refine lv_bipush (v := 8) hx hb dX5_init_37 (by decide) ?_
  refine va_newa (atype := .int) (ty := .int) (N' := 8) (a0 := (8, .inl (fun _ => 0))) hx hb (hts _ u_80) rfl hK hP hD hS hA (fun _ => rfl) (by decide) (by decide) (Nat.le_of_ble_eq_true rfl) (Nat.le_of_ble_eq_true rfl) (Nat.le_of_ble_eq_true rfl) dX5_init_39 (fun q349 cA350 H351 hK hP hD hS => ?_)
  refine W.widen (k := 5) (n := 34) (Nat.le_of_ble_eq_true rfl) (Nat.le_of_ble_eq_true rfl) ?_
  have hK : va_K (dC, dI) vwCl [(cA350, .int)] s := hK
  have hP : va_P (dC, dI) vwCl [(h0, .inr (5, [.int 0, .ref q333, .ref q337, .ref q341, .int 0, .ref q345, .null, .null, .null, .null, .null, .int 0, .int 0, .null])), (q349, .inl (cA350, 8, .inl (fun _ => 0)))] H351 := hP
  have hD : va_D A [(h0, .inr (5, [.int 0, .ref q333, .ref q337, .ref q341, .int 0, .ref q345, .null, .null, .null, .null, .null, .int 0, .int 0, .null])), (q349, .inl (cA350, 8, .inl (fun _ => 0)))] := hD
  have hP := hP.sub (ws' := [(h0, .inr (5, [.int 0, .ref q333, .ref q337, .ref q341, .int 0, .ref q345, .null, .null, .null, .null, .null, .int 0, .int 0, .null]))]) [0] rfl
  have hD := hD.sub (ws' := [(h0, .inr (5, [.int 0, .ref q333, .ref q337, .ref q341, .int 0, .ref q345, .null, .null, .null, .null, .null, .int 0, .int 0, .null]))]) [0] (by decide) rfl
  have hK := hK.sub (tys' := []) [] rfl
  refine va_putF (D := (dC, dI)) (ci := 5) (v := .ref q349) (ty := (.array .int)) (C := RX5) (T := TX5) (N := 14) hx hb hts gX5 tyX5 tyX5_ok nmX5 hown hK hP hD hS 0 rfl rfl 6 (by decide) (hts _ u_180) (fun _ h9 => h9) rfl hin rfl (by decide +kernel) rfl rfl (Nat.le_of_ble_eq_true rfl) dX5_init_41 (fun H352 locs hP hD hS => ?_)
  have hP : va_P (dC, dI) vwCl [(h0, .inr (5, [.int 0, .ref q333, .ref q337, .ref q341, .int 0, .ref q345, .ref q349, .null, .null, .null, .null, .int 0, .int 0, .null]))] H352 := hP
  have hD : va_D A [(h0, .inr (5, [.int 0, .ref q333, .ref q337, .ref q341, .int 0, .ref q345, .ref q349, .null, .null, .null, .null, .int 0, .int 0, .null]))] := hD
  refine lv_aload_n hx hb dX5_init_44 rfl (lv_at hl 0 rfl) ?_
  refine lv_bipush (v := 8) hx hb dX5_init_45 (by decide) ?_
  refine va_newa (atype := .int) (ty := .int) (N' := 8) (a0 := (8, .inl (fun _ => 0))) hx hb (hts _ u_80) rfl hK hP hD hS hA (fun _ => rfl) (by decide) (by decide) (Nat.le_of_ble_eq_true rfl) (Nat.le_of_ble_eq_true rfl) (Nat.le_of_ble_eq_true rfl) dX5_init_47 (fun q353 cA354 H355 hK hP hD hS => ?_)
  refine W.widen (k := 6) (n := 42) (Nat.le_of_ble_eq_true rfl) (Nat.le_of_ble_eq_true rfl) ?_
  have hK : va_K (dC, dI) vwCl [(cA354, .int)] s := hK
  have hP : va_P (dC, dI) vwCl [(h0, .inr (5, [.int 0, .ref q333, .ref q337, .ref q341, .int 0, .ref q345, .ref q349, .null, .null, .null, .null, .int 0, .int 0, .null])), (q353, .inl (cA354, 8, .inl (fun _ => 0)))] H355 := hP
  have hD : va_D A [(h0, .inr (5, [.int 0, .ref q333, .ref q337, .ref q341, .int 0, .ref q345, .ref q349, .null, .null, .null, .null, .int 0, .int 0, .null])), (q353, .inl (cA354, 8, .inl (fun _ => 0)))] := hD
  have hP := hP.sub (ws' := [(h0, .inr (5, [.int 0, .ref q333, .ref q337, .ref q341, .int 0, .ref q345, .ref q349, .null, .null, .null, .null, .int 0, .int 0, .null]))]) [0] rfl
  have hD := hD.sub (ws' := [(h0, .inr (5, [.int 0, .ref q333, .ref q337, .ref q341, .int 0, .ref q345, .ref q349, .null, .null, .null, .null, .int 0, .int 0, .null]))]) [0] (by decide) rfl
  have hK := hK.sub (tys' := []) [] rfl
  refine va_putF (D := (dC, dI)) (ci := 5) (v := .ref q353) (ty := (.array .int)) (C := RX5) (T := TX5) (N := 14) hx hb hts gX5 tyX5 tyX5_ok nmX5 hown hK hP hD hS 0 rfl rfl 7 (by decide) (hts _ u_182) (fun _ h9 => h9) rfl hin rfl (by decide +kernel) rfl rfl (Nat.le_of_ble_eq_true rfl) dX5_init_49 (fun H356 locs hP hD hS => ?_)
  have hP : va_P (dC, dI) vwCl [(h0, .inr (5, [.int 0, .ref q333, .ref q337, .ref q341, .int 0, .ref q345, .ref q349, .ref q353, .null, .null, .null, .int 0, .int 0, .null]))] H356 := hP
  have hD : va_D A [(h0, .inr (5, [.int 0, .ref q333, .ref q337, .ref q341, .int 0, .ref q345, .ref q349, .ref q353, .null, .null, .null, .int 0, .int 0, .null]))] := hD
  refine lv_aload_n hx hb dX5_init_52 rfl (lv_at hl 0 rfl) ?_
  refine lv_bipush (v := 8) hx hb dX5_init_53 (by decide) ?_
  refine va_newa (atype := .int) (ty := .int) (N' := 8) (a0 := (8, .inl (fun _ => 0))) hx hb (hts _ u_80) rfl hK hP hD hS hA (fun _ => rfl) (by decide) (by decide) (Nat.le_of_ble_eq_true rfl) (Nat.le_of_ble_eq_true rfl) (Nat.le_of_ble_eq_true rfl) dX5_init_55 (fun q357 cA358 H359 hK hP hD hS => ?_)
  refine W.widen (k := 7) (n := 50) (Nat.le_of_ble_eq_true rfl) (Nat.le_of_ble_eq_true rfl) ?_
  have hK : va_K (dC, dI) vwCl [(cA358, .int)] s := hK
  have hP : va_P (dC, dI) vwCl [(h0, .inr (5, [.int 0, .ref q333, .ref q337, .ref q341, .int 0, .ref q345, .ref q349, .ref q353, .null, .null, .null, .int 0, .int 0, .null])), (q357, .inl (cA358, 8, .inl (fun _ => 0)))] H359 := hP
  have hD : va_D A [(h0, .inr (5, [.int 0, .ref q333, .ref q337, .ref q341, .int 0, .ref q345, .ref q349, .ref q353, .null, .null, .null, .int 0, .int 0, .null])), (q357, .inl (cA358, 8, .inl (fun _ => 0)))] := hD
  have hP := hP.sub (ws' := [(h0, .inr (5, [.int 0, .ref q333, .ref q337, .ref q341, .int 0, .ref q345, .ref q349, .ref q353, .null, .null, .null, .int 0, .int 0, .null]))]) [0] rfl
  have hD := hD.sub (ws' := [(h0, .inr (5, [.int 0, .ref q333, .ref q337, .ref q341, .int 0, .ref q345, .ref q349, .ref q353, .null, .null, .null, .int 0, .int 0, .null]))]) [0] (by decide) rfl
  have hK := hK.sub (tys' := []) [] rfl
  refine va_putF (D := (dC, dI)) (ci := 5) (v := .ref q357) (ty := (.array .int)) (C := RX5) (T := TX5) (N := 14) hx hb hts gX5 tyX5 tyX5_ok nmX5 hown hK hP hD hS 0 rfl rfl 8 (by decide) (hts _ u_184) (fun _ h9 => h9) rfl hin rfl (by decide +kernel) rfl rfl (Nat.le_of_ble_eq_true rfl) dX5_init_57 (fun H360 locs hP hD hS => ?_)
  have hP : va_P (dC, dI) vwCl [(h0, .inr (5, [.int 0, .ref q333, .ref q337, .ref q341, .int 0, .ref q345, .ref q349, .ref q353, .ref q357, .null, .null, .int 0, .int 0, .null]))] H360 := hP
  have hD : va_D A [(h0, .inr (5, [.int 0, .ref q333, .ref q337, .ref q341, .int 0, .ref q345, .ref q349, .ref q353, .ref q357, .null, .null, .int 0, .int 0, .null]))] := hD
  refine lv_aload_n hx hb dX5_init_60 rfl (lv_at hl 0 rfl) ?_
  refine lv_bipush (v := 8) hx hb dX5_init_61 (by decide) ?_
  refine va_newa (atype := .int) (ty := .int) (N' := 8) (a0 := (8, .inl (fun _ => 0))) hx hb (hts _ u_80) rfl hK hP hD hS hA (fun _ => rfl) (by decide) (by decide) (Nat.le_of_ble_eq_true rfl) (Nat.le_of_ble_eq_true rfl) (Nat.le_of_ble_eq_true rfl) dX5_init_63 (fun q361 cA362 H363 hK hP hD hS => ?_)
  refine W.widen (k := 8) (n := 58) (Nat.le_of_ble_eq_true rfl) (Nat.le_of_ble_eq_true rfl) ?_
  have hK : va_K (dC, dI) vwCl [(cA362, .int)] s := hK
  have hP : va_P (dC, dI) vwCl [(h0, .inr (5, [.int 0, .ref q333, .ref q337, .ref q341, .int 0, .ref q345, .ref q349, .ref q353, .ref q357, .null, .null, .int 0, .int 0, .null])), (q361, .inl (cA362, 8, .inl (fun _ => 0)))] H363 := hP
  have hD : va_D A [(h0, .inr (5, [.int 0, .ref q333, .ref q337, .ref q341, .int 0, .ref q345, .ref q349, .ref q353, .ref q357, .null, .null, .int 0, .int 0, .null])), (q361, .inl (cA362, 8, .inl (fun _ => 0)))] := hD
  have hP := hP.sub (ws' := [(h0, .inr (5, [.int 0, .ref q333, .ref q337, .ref q341, .int 0, .ref q345, .ref q349, .ref q353, .ref q357, .null, .null, .int 0, .int 0, .null]))]) [0] rfl
  have hD := hD.sub (ws' := [(h0, .inr (5, [.int 0, .ref q333, .ref q337, .ref q341, .int 0, .ref q345, .ref q349, .ref q353, .ref q357, .null, .null, .int 0, .int 0, .null]))]) [0] (by decide) rfl
  have hK := hK.sub (tys' := []) [] rfl
  refine va_putF (D := (dC, dI)) (ci := 5) (v := .ref q361) (ty := (.array .int)) (C := RX5) (T := TX5) (N := 14) hx hb hts gX5 tyX5 tyX5_ok nmX5 hown hK hP hD hS 0 rfl rfl 9 (by decide) (hts _ u_186) (fun _ h9 => h9) rfl hin rfl (by decide +kernel) rfl rfl (Nat.le_of_ble_eq_true rfl) dX5_init_65 (fun H364 locs hP hD hS => ?_)
  have hP : va_P (dC, dI) vwCl [(h0, .inr (5, [.int 0, .ref q333, .ref q337, .ref q341, .int 0, .ref q345, .ref q349, .ref q353, .ref q357, .ref q361, .null, .int 0, .int 0, .null]))] H364 := hP
  have hD : va_D A [(h0, .inr (5, [.int 0, .ref q333, .ref q337, .ref q341, .int 0, .ref q345, .ref q349, .ref q353, .ref q357, .ref q361, .null, .int 0, .int 0, .null]))] := hD
  refine lv_aload_n hx hb dX5_init_68 rfl (lv_at hl 0 rfl) ?_
  refine lv_bipush (v := 8) hx hb dX5_init_69 (by decide) ?_
  refine va_newa (atype := .boolean) (ty := .boolean) (N' := 8) (a0 := (8, .inl (fun _ => 0))) hx hb (hts _ u_81) rfl hK hP hD hS hA (fun _ => rfl) (by decide) (by decide) (Nat.le_of_ble_eq_true rfl) (Nat.le_of_ble_eq_true rfl) (Nat.le_of_ble_eq_true rfl) dX5_init_71 (fun q365 cA366 H367 hK hP hD hS => ?_)
  refine W.widen (k := 9) (n := 66) (Nat.le_of_ble_eq_true rfl) (Nat.le_of_ble_eq_true rfl) ?_
  have hK : va_K (dC, dI) vwCl [(cA366, .boolean)] s := hK
  have hP : va_P (dC, dI) vwCl [(h0, .inr (5, [.int 0, .ref q333, .ref q337, .ref q341, .int 0, .ref q345, .ref q349, .ref q353, .ref q357, .ref q361, .null, .int 0, .int 0, .null])), (q365, .inl (cA366, 8, .inl (fun _ => 0)))] H367 := hP
  have hD : va_D A [(h0, .inr (5, [.int 0, .ref q333, .ref q337, .ref q341, .int 0, .ref q345, .ref q349, .ref q353, .ref q357, .ref q361, .null, .int 0, .int 0, .null])), (q365, .inl (cA366, 8, .inl (fun _ => 0)))] := hD
  have hP := hP.sub (ws' := [(h0, .inr (5, [.int 0, .ref q333, .ref q337, .ref q341, .int 0, .ref q345, .ref q349, .ref q353, .ref q357, .ref q361, .null, .int 0, .int 0, .null]))]) [0] rfl
  have hD := hD.sub (ws' := [(h0, .inr (5, [.int 0, .ref q333, .ref q337, .ref q341, .int 0, .ref q345, .ref q349, .ref q353, .ref q357, .ref q361, .null, .int 0, .int 0, .null]))]) [0] (by decide) rfl
  have hK := hK.sub (tys' := []) [] rfl
  refine va_putF (D := (dC, dI)) (ci := 5) (v := .ref q365) (ty := (.array .boolean)) (C := RX5) (T := TX5) (N := 14) hx hb hts gX5 tyX5 tyX5_ok nmX5 hown hK hP hD hS 0 rfl rfl 10 (by decide) (hts _ u_188) (fun _ h9 => h9) rfl hin rfl (by decide +kernel) rfl rfl (Nat.le_of_ble_eq_true rfl) dX5_init_73 (fun H368 locs hP hD hS => ?_)
  have hP : va_P (dC, dI) vwCl [(h0, .inr (5, [.int 0, .ref q333, .ref q337, .ref q341, .int 0, .ref q345, .ref q349, .ref q353, .ref q357, .ref q361, .ref q365, .int 0, .int 0, .null]))] H368 := hP
  have hD : va_D A [(h0, .inr (5, [.int 0, .ref q333, .ref q337, .ref q341, .int 0, .ref q345, .ref q349, .ref q353, .ref q357, .ref q361, .ref q365, .int 0, .int 0, .null]))] := hD
  refine lv_aload_n hx hb dX5_init_76 rfl (lv_at hl 0 rfl) ?_
  refine lv_iconst (v := 3) hx hb dX5_init_77 (by decide) ?_
  refine va_newq (N' := 3) hx hb hown (hts _ u_146) hE.2.2.1 hK hP hD hS hA (by decide) (by decide) (Nat.le_of_ble_eq_true rfl) (Nat.le_of_ble_eq_true rfl) (Nat.le_of_ble_eq_true rfl) dX5_init_78 (fun q369 cA370 H371 hK hP hD hS => ?_)
  refine W.widen (k := 10) (n := 69) (Nat.le_of_ble_eq_true rfl) (Nat.le_of_ble_eq_true rfl) ?_
  have hK : va_K (dC, dI) vwCl [(cA370, .object RX3)] s := hK
  have hP : va_P (dC, dI) vwCl [(h0, .inr (5, [.int 0, .ref q333, .ref q337, .ref q341, .int 0, .ref q345, .ref q349, .ref q353, .ref q357, .ref q361, .ref q365, .int 0, .int 0, .null])), (q369, .inl (cA370, 3, .inr (.inr (.inr (.inr (fun _ => none))))))] H371 := hP
  have hD : va_D A [(h0, .inr (5, [.int 0, .ref q333, .ref q337, .ref q341, .int 0, .ref q345, .ref q349, .ref q353, .ref q357, .ref q361, .ref q365, .int 0, .int 0, .null])), (q369, .inl (cA370, 3, .inr (.inr (.inr (.inr (fun _ => none))))))] := hD
  refine va_putF (D := (dC, dI)) (ci := 5) (v := .ref q369) (ty := (.array (.object RX3))) (C := RX5) (T := TX5) (N := 14) hx hb hts gX5 tyX5 tyX5_ok nmX5 hown hK hP hD hS 0 rfl rfl 13 (by decide) (hts _ u_194) (fun _ h9 => h9) rfl hin rfl (by decide +kernel) rfl rfl (Nat.le_of_ble_eq_true rfl) dX5_init_81 (fun H372 locs hP hD hS => ?_)
  have hP : va_P (dC, dI) vwCl [(h0, .inr (5, [.int 0, .ref q333, .ref q337, .ref q341, .int 0, .ref q345, .ref q349, .ref q353, .ref q357, .ref q361, .ref q365, .int 0, .int 0, .ref q369])), (q369, .inl (cA370, 3, .inr (.inr (.inr (.inr (fun _ => none))))))] H372 := hP
  have hD : va_D A [(h0, .inr (5, [.int 0, .ref q333, .ref q337, .ref q341, .int 0, .ref q345, .ref q349, .ref q353, .ref q357, .ref q361, .ref q365, .int 0, .int 0, .ref q369])), (q369, .inl (cA370, 3, .inr (.inr (.inr (.inr (fun _ => none))))))] := hD
  refine lv_iconst (v := 0) hx hb dX5_init_84 (by decide) ?_
  refine lv_istore_n (lv' := [(1, .int 0), (0, .ref h0)]) hx hb dX5_init_85 rfl hl (by decide) rfl (fun ls hl => ?_)
  refine lv_iload_n hx hb dX5_init_86 rfl (lv_at hl 0 rfl) ?_
  refine lv_iconst (v := 3) hx hb dX5_init_87 (by decide) ?_
  refine lv_icmp_ge (tgt := 110) hx hb dX5_init_88 (by decide) (fun h9 => absurd h9 (by decide)) (fun _ => ?_)
  refine lv_aload_n hx hb dX5_init_91 rfl (lv_at hl 1 rfl) ?_
  refine va_get (D := (dC, dI)) (ci := 5) (v := .ref q369) (C := RX5) (T := TX5) (N := 14) hx hb hts gX5 hown hK hP 0 rfl rfl 13 (by decide) (hts _ u_194) (fun _ h9 => h9) rfl dX5_init_92 ?_
  refine lv_iload_n hx hb dX5_init_95 rfl (lv_at hl 0 rfl) ?_
  refine va_new (ci := 3) (fs := [.int 0, .int 0, .null, .null]) (C := RX3) (T := TX3) (N := 4) hx hb hts gX3 tyX3 tyX3_ok hown (hts _ u_146) (hts _ u_148) (hts _ u_7) hK hP hD hS hA rfl (fun j hj => by rcases (show j = 0 ∨ j = 1 ∨ j = 2 ∨ j = 3 by omega) with rfl | rfl | rfl | rfl <;> rfl) (Nat.le_of_ble_eq_true rfl) (Nat.le_of_ble_eq_true rfl) dX5_init_96 (fun q373 H374 hP hD hS => ?_)
  have hP : va_P (dC, dI) vwCl [(h0, .inr (5, [.int 0, .ref q333, .ref q337, .ref q341, .int 0, .ref q345, .ref q349, .ref q353, .ref q357, .ref q361, .ref q365, .int 0, .int 0, .ref q369])), (q369, .inl (cA370, 3, .inr (.inr (.inr (.inr (fun _ => none)))))), (q373, .inr (3, [.int 0, .int 0, .null, .null]))] H374 := hP
  have hD : va_D A [(h0, .inr (5, [.int 0, .ref q333, .ref q337, .ref q341, .int 0, .ref q345, .ref q349, .ref q353, .ref q357, .ref q361, .ref q365, .int 0, .int 0, .ref q369])), (q369, .inl (cA370, 3, .inr (.inr (.inr (.inr (fun _ => none)))))), (q373, .inr (3, [.int 0, .int 0, .null, .null]))] := hD
  refine W.widen (k := 11) (n := 73) (Nat.le_of_ble_eq_true rfl) (Nat.le_of_ble_eq_true rfl) ?_
  refine lv_dup hx hb dX5_init_99 rfl ?_
  have hPc := hP.sub (ws' := [(q373, .inr (3, [.int 0, .int 0, .null, .null]))]) [2] rfl
  have hDc := hD.sub (ws' := [(q373, .inr (3, [.int 0, .int 0, .null, .null]))]) [2] (by decide) rfl
  have hKc := hK.sub (tys' := []) [] rfl
  have hFc := va_free (wc := [(q373, .inr (3, [.int 0, .int 0, .null, .null]))]) hD hS hA [2] rfl
  refine va_callv (va_runI (As := []) (rest := [.ref q373, .int 0, .ref q369]) ⟨hx, hb, hml, hown, hts⟩ (c_X3_init l dC dI H374.size q373) (cwI 0 hts (gC u_151) rfl rfl rfl (hts _ u_7) (hts _ u_149) (hts _ u_150) rfl (by decide +kernel) ⟨Nat.le_of_ble_eq_true rfl, Nat.le_of_ble_eq_true rfl⟩) ⟨gP_blind, gP_call hPc hKc hDc hE⟩ rfl rfl hl.1 rfl (lv_room (Nat.le_of_ble_eq_true rfl)) dX5_init_100 ⟨(Nat.le_of_ble_eq_true rfl), (Nat.le_of_ble_eq_true rfl)⟩) hS (fun q _ h => hFc q h) hFc (fun u9 t9 H375 locs ht hvm hw hB hz1 hk1 hS => ?_)
  obtain ⟨g9377, hP1, hK1, hD1⟩ := hB
  rw [ht] at hP1
  have hK1 := va_K.moved hvm.symm hK1
  obtain ⟨hP, hD⟩ := va_join (wr := [(h0, .inr (5, [.int 0, .ref q333, .ref q337, .ref q341, .int 0, .ref q345, .ref q349, .ref q353, .ref q357, .ref q361, .ref q365, .int 0, .int 0, .ref q369])), (q369, .inl (cA370, 3, .inr (.inr (.inr (.inr (fun _ => none))))))]) (w1 := [(q373, .inr (3, [.int 0, .int 0, .ref (g9377 0), .ref (g9377 1)]))]) hP hD [2] [0, 1] rfl rfl (by decide) (by decide) hk1 hFc hP1 hD1
  have hK := (hK.sub (tys' := [(cA370, .object RX3)]) [0] rfl).app hK1
  have hK : va_K (dC, dI) vwCl [(cA370, .object RX3)] s := hK
  have hP : va_P (dC, dI) vwCl [(h0, .inr (5, [.int 0, .ref q333, .ref q337, .ref q341, .int 0, .ref q345, .ref q349, .ref q353, .ref q357, .ref q361, .ref q365, .int 0, .int 0, .ref q369])), (q369, .inl (cA370, 3, .inr (.inr (.inr (.inr (fun _ => none)))))), (q373, .inr (3, [.int 0, .int 0, .ref (g9377 0), .ref (g9377 1)]))] H375 := hP
  have hD : va_D A [(h0, .inr (5, [.int 0, .ref q333, .ref q337, .ref q341, .int 0, .ref q345, .ref q349, .ref q353, .ref q357, .ref q361, .ref q365, .int 0, .int 0, .ref q369])), (q369, .inl (cA370, 3, .inr (.inr (.inr (.inr (fun _ => none)))))), (q373, .inr (3, [.int 0, .int 0, .ref (g9377 0), .ref (g9377 1)]))] := hD
  refine W.widen (k := 13) (n := 81) (Nat.le_of_ble_eq_true rfl) (Nat.le_of_ble_eq_true rfl) ?_
  refine va_astq hx hb hK hP hD hS 1 0 2 3 rfl rfl rfl rfl (by unfold vp_in; decide) dX5_init_103 (fun H378 locs hP hD hS => ?_)
  generalize hff379 : va_up (fun _ => none) (0 : Int32).toNatClampNeg (some q373) = f379 at hP hD
  have hP : va_P (dC, dI) vwCl [(h0, .inr (5, [.int 0, .ref q333, .ref q337, .ref q341, .int 0, .ref q345, .ref q349, .ref q353, .ref q357, .ref q361, .ref q365, .int 0, .int 0, .ref q369])), (q369, .inl (cA370, 3, .inr (.inr (.inr (.inr f379))))), (q373, .inr (3, [.int 0, .int 0, .ref (g9377 0), .ref (g9377 1)]))] H378 := hP
  have hD : va_D A [(h0, .inr (5, [.int 0, .ref q333, .ref q337, .ref q341, .int 0, .ref q345, .ref q349, .ref q353, .ref q357, .ref q361, .ref q365, .int 0, .int 0, .ref q369])), (q369, .inl (cA370, 3, .inr (.inr (.inr (.inr f379))))), (q373, .inr (3, [.int 0, .int 0, .ref (g9377 0), .ref (g9377 1)]))] := hD
  have hP := hP.sub (ws' := [(h0, .inr (5, [.int 0, .ref q333, .ref q337, .ref q341, .int 0, .ref q345, .ref q349, .ref q353, .ref q357, .ref q361, .ref q365, .int 0, .int 0, .ref q369])), (q369, .inl (cA370, 3, .inr (.inr (.inr (.inr f379)))))]) [0, 1] rfl
  have hD := hD.sub (ws' := [(h0, .inr (5, [.int 0, .ref q333, .ref q337, .ref q341, .int 0, .ref q345, .ref q349, .ref q353, .ref q357, .ref q361, .ref q365, .int 0, .int 0, .ref q369])), (q369, .inl (cA370, 3, .inr (.inr (.inr (.inr f379)))))]) [0, 1] (by decide) rfl
  have hK := hK.sub (tys' := [(cA370, .object RX3)]) [0] rfl
  refine lv_iinc (v := 1) (lv' := [(1, .int 1), (0, .ref h0)]) hx hb dX5_init_104 hl (k := 0) rfl (by decide) (by decide) rfl (fun ls hl => ?_)
  refine lv_goto (tgt := 86) hx hb dX5_init_107 (by decide) ?_
  refine lv_iload_n hx hb dX5_init_86 rfl (lv_at hl 0 rfl) ?_
  refine lv_iconst (v := 3) hx hb dX5_init_87 (by decide) ?_
  refine lv_icmp_ge (tgt := 110) hx hb dX5_init_88 (by decide) (fun h9 => absurd h9 (by decide)) (fun _ => ?_)
  refine lv_aload_n hx hb dX5_init_91 rfl (lv_at hl 1 rfl) ?_
  refine va_get (D := (dC, dI)) (ci := 5) (v := .ref q369) (C := RX5) (T := TX5) (N := 14) hx hb hts gX5 hown hK hP 0 rfl rfl 13 (by decide) (hts _ u_194) (fun _ h9 => h9) rfl dX5_init_92 ?_
  refine lv_iload_n hx hb dX5_init_95 rfl (lv_at hl 0 rfl) ?_
  refine va_new (ci := 3) (fs := [.int 0, .int 0, .null, .null]) (C := RX3) (T := TX3) (N := 4) hx hb hts gX3 tyX3 tyX3_ok hown (hts _ u_146) (hts _ u_148) (hts _ u_7) hK hP hD hS hA rfl (fun j hj => by rcases (show j = 0 ∨ j = 1 ∨ j = 2 ∨ j = 3 by omega) with rfl | rfl | rfl | rfl <;> rfl) (Nat.le_of_ble_eq_true rfl) (Nat.le_of_ble_eq_true rfl) dX5_init_96 (fun q380 H381 hP hD hS => ?_)
  have hP : va_P (dC, dI) vwCl [(h0, .inr (5, [.int 0, .ref q333, .ref q337, .ref q341, .int 0, .ref q345, .ref q349, .ref q353, .ref q357, .ref q361, .ref q365, .int 0, .int 0, .ref q369])), (q369, .inl (cA370, 3, .inr (.inr (.inr (.inr f379))))), (q380, .inr (3, [.int 0, .int 0, .null, .null]))] H381 := hP
  have hD : va_D A [(h0, .inr (5, [.int 0, .ref q333, .ref q337, .ref q341, .int 0, .ref q345, .ref q349, .ref q353, .ref q357, .ref q361, .ref q365, .int 0, .int 0, .ref q369])), (q369, .inl (cA370, 3, .inr (.inr (.inr (.inr f379))))), (q380, .inr (3, [.int 0, .int 0, .null, .null]))] := hD
  refine W.widen (k := 14) (n := 85) (Nat.le_of_ble_eq_true rfl) (Nat.le_of_ble_eq_true rfl) ?_
  refine lv_dup hx hb dX5_init_99 rfl ?_
  have hPc := hP.sub (ws' := [(q380, .inr (3, [.int 0, .int 0, .null, .null]))]) [2] rfl
  have hDc := hD.sub (ws' := [(q380, .inr (3, [.int 0, .int 0, .null, .null]))]) [2] (by decide) rfl
  have hKc := hK.sub (tys' := []) [] rfl
  have hFc := va_free (wc := [(q380, .inr (3, [.int 0, .int 0, .null, .null]))]) hD hS hA [2] rfl
  refine va_callv (va_runI (As := []) (rest := [.ref q380, .int 1, .ref q369]) ⟨hx, hb, hml, hown, hts⟩ (c_X3_init l dC dI H381.size q380) (cwI 0 hts (gC u_151) rfl rfl rfl (hts _ u_7) (hts _ u_149) (hts _ u_150) rfl (by decide +kernel) ⟨Nat.le_of_ble_eq_true rfl, Nat.le_of_ble_eq_true rfl⟩) ⟨gP_blind, gP_call hPc hKc hDc hE⟩ rfl rfl hl.1 rfl (lv_room (Nat.le_of_ble_eq_true rfl)) dX5_init_100 ⟨(Nat.le_of_ble_eq_true rfl), (Nat.le_of_ble_eq_true rfl)⟩) hS (fun q _ h => hFc q h) hFc (fun u9 t9 H382 locs ht hvm hw hB hz1 hk1 hS => ?_)
  obtain ⟨g9384, hP1, hK1, hD1⟩ := hB
  rw [ht] at hP1
  have hK1 := va_K.moved hvm.symm hK1
  obtain ⟨hP, hD⟩ := va_join (wr := [(h0, .inr (5, [.int 0, .ref q333, .ref q337, .ref q341, .int 0, .ref q345, .ref q349, .ref q353, .ref q357, .ref q361, .ref q365, .int 0, .int 0, .ref q369])), (q369, .inl (cA370, 3, .inr (.inr (.inr (.inr f379)))))]) (w1 := [(q380, .inr (3, [.int 0, .int 0, .ref (g9384 0), .ref (g9384 1)]))]) hP hD [2] [0, 1] rfl rfl (by decide) (by decide) hk1 hFc hP1 hD1
  have hK := (hK.sub (tys' := [(cA370, .object RX3)]) [0] rfl).app hK1
  have hK : va_K (dC, dI) vwCl [(cA370, .object RX3)] s := hK
  have hP : va_P (dC, dI) vwCl [(h0, .inr (5, [.int 0, .ref q333, .ref q337, .ref q341, .int 0, .ref q345, .ref q349, .ref q353, .ref q357, .ref q361, .ref q365, .int 0, .int 0, .ref q369])), (q369, .inl (cA370, 3, .inr (.inr (.inr (.inr f379))))), (q380, .inr (3, [.int 0, .int 0, .ref (g9384 0), .ref (g9384 1)]))] H382 := hP
  have hD : va_D A [(h0, .inr (5, [.int 0, .ref q333, .ref q337, .ref q341, .int 0, .ref q345, .ref q349, .ref q353, .ref q357, .ref q361, .ref q365, .int 0, .int 0, .ref q369])), (q369, .inl (cA370, 3, .inr (.inr (.inr (.inr f379))))), (q380, .inr (3, [.int 0, .int 0, .ref (g9384 0), .ref (g9384 1)]))] := hD
  refine W.widen (k := 16) (n := 93) (Nat.le_of_ble_eq_true rfl) (Nat.le_of_ble_eq_true rfl) ?_
  refine va_astq hx hb hK hP hD hS 1 0 2 3 rfl rfl rfl rfl (by unfold vp_in; decide) dX5_init_103 (fun H385 locs hP hD hS => ?_)
  generalize hff386 : va_up f379 (1 : Int32).toNatClampNeg (some q380) = f386 at hP hD
  have hP : va_P (dC, dI) vwCl [(h0, .inr (5, [.int 0, .ref q333, .ref q337, .ref q341, .int 0, .ref q345, .ref q349, .ref q353, .ref q357, .ref q361, .ref q365, .int 0, .int 0, .ref q369])), (q369, .inl (cA370, 3, .inr (.inr (.inr (.inr f386))))), (q380, .inr (3, [.int 0, .int 0, .ref (g9384 0), .ref (g9384 1)]))] H385 := hP
  have hD : va_D A [(h0, .inr (5, [.int 0, .ref q333, .ref q337, .ref q341, .int 0, .ref q345, .ref q349, .ref q353, .ref q357, .ref q361, .ref q365, .int 0, .int 0, .ref q369])), (q369, .inl (cA370, 3, .inr (.inr (.inr (.inr f386))))), (q380, .inr (3, [.int 0, .int 0, .ref (g9384 0), .ref (g9384 1)]))] := hD
  have hP := hP.sub (ws' := [(h0, .inr (5, [.int 0, .ref q333, .ref q337, .ref q341, .int 0, .ref q345, .ref q349, .ref q353, .ref q357, .ref q361, .ref q365, .int 0, .int 0, .ref q369])), (q369, .inl (cA370, 3, .inr (.inr (.inr (.inr f386)))))]) [0, 1] rfl
  have hD := hD.sub (ws' := [(h0, .inr (5, [.int 0, .ref q333, .ref q337, .ref q341, .int 0, .ref q345, .ref q349, .ref q353, .ref q357, .ref q361, .ref q365, .int 0, .int 0, .ref q369])), (q369, .inl (cA370, 3, .inr (.inr (.inr (.inr f386)))))]) [0, 1] (by decide) rfl
  have hK := hK.sub (tys' := [(cA370, .object RX3)]) [0] rfl
  refine lv_iinc (v := 2) (lv' := [(1, .int 2), (0, .ref h0)]) hx hb dX5_init_104 hl (k := 0) rfl (by decide) (by decide) rfl (fun ls hl => ?_)
  refine lv_goto (tgt := 86) hx hb dX5_init_107 (by decide) ?_
  refine lv_iload_n hx hb dX5_init_86 rfl (lv_at hl 0 rfl) ?_
  refine lv_iconst (v := 3) hx hb dX5_init_87 (by decide) ?_
  refine lv_icmp_ge (tgt := 110) hx hb dX5_init_88 (by decide) (fun h9 => absurd h9 (by decide)) (fun _ => ?_)
  refine lv_aload_n hx hb dX5_init_91 rfl (lv_at hl 1 rfl) ?_
  refine va_get (D := (dC, dI)) (ci := 5) (v := .ref q369) (C := RX5) (T := TX5) (N := 14) hx hb hts gX5 hown hK hP 0 rfl rfl 13 (by decide) (hts _ u_194) (fun _ h9 => h9) rfl dX5_init_92 ?_
  refine lv_iload_n hx hb dX5_init_95 rfl (lv_at hl 0 rfl) ?_
  refine va_new (ci := 3) (fs := [.int 0, .int 0, .null, .null]) (C := RX3) (T := TX3) (N := 4) hx hb hts gX3 tyX3 tyX3_ok hown (hts _ u_146) (hts _ u_148) (hts _ u_7) hK hP hD hS hA rfl (fun j hj => by rcases (show j = 0 ∨ j = 1 ∨ j = 2 ∨ j = 3 by omega) with rfl | rfl | rfl | rfl <;> rfl) (Nat.le_of_ble_eq_true rfl) (Nat.le_of_ble_eq_true rfl) dX5_init_96 (fun q387 H388 hP hD hS => ?_)
  have hP : va_P (dC, dI) vwCl [(h0, .inr (5, [.int 0, .ref q333, .ref q337, .ref q341, .int 0, .ref q345, .ref q349, .ref q353, .ref q357, .ref q361, .ref q365, .int 0, .int 0, .ref q369])), (q369, .inl (cA370, 3, .inr (.inr (.inr (.inr f386))))), (q387, .inr (3, [.int 0, .int 0, .null, .null]))] H388 := hP
  have hD : va_D A [(h0, .inr (5, [.int 0, .ref q333, .ref q337, .ref q341, .int 0, .ref q345, .ref q349, .ref q353, .ref q357, .ref q361, .ref q365, .int 0, .int 0, .ref q369])), (q369, .inl (cA370, 3, .inr (.inr (.inr (.inr f386))))), (q387, .inr (3, [.int 0, .int 0, .null, .null]))] := hD
  refine W.widen (k := 17) (n := 97) (Nat.le_of_ble_eq_true rfl) (Nat.le_of_ble_eq_true rfl) ?_
  refine lv_dup hx hb dX5_init_99 rfl ?_
  have hPc := hP.sub (ws' := [(q387, .inr (3, [.int 0, .int 0, .null, .null]))]) [2] rfl
  have hDc := hD.sub (ws' := [(q387, .inr (3, [.int 0, .int 0, .null, .null]))]) [2] (by decide) rfl
  have hKc := hK.sub (tys' := []) [] rfl
  have hFc := va_free (wc := [(q387, .inr (3, [.int 0, .int 0, .null, .null]))]) hD hS hA [2] rfl
  refine va_callv (va_runI (As := []) (rest := [.ref q387, .int 2, .ref q369]) ⟨hx, hb, hml, hown, hts⟩ (c_X3_init l dC dI H388.size q387) (cwI 0 hts (gC u_151) rfl rfl rfl (hts _ u_7) (hts _ u_149) (hts _ u_150) rfl (by decide +kernel) ⟨Nat.le_of_ble_eq_true rfl, Nat.le_of_ble_eq_true rfl⟩) ⟨gP_blind, gP_call hPc hKc hDc hE⟩ rfl rfl hl.1 rfl (lv_room (Nat.le_of_ble_eq_true rfl)) dX5_init_100 ⟨(Nat.le_of_ble_eq_true rfl), (Nat.le_of_ble_eq_true rfl)⟩) hS (fun q _ h => hFc q h) hFc (fun u9 t9 H389 locs ht hvm hw hB hz1 hk1 hS => ?_)
  obtain ⟨g9391, hP1, hK1, hD1⟩ := hB
  rw [ht] at hP1
  have hK1 := va_K.moved hvm.symm hK1
  obtain ⟨hP, hD⟩ := va_join (wr := [(h0, .inr (5, [.int 0, .ref q333, .ref q337, .ref q341, .int 0, .ref q345, .ref q349, .ref q353, .ref q357, .ref q361, .ref q365, .int 0, .int 0, .ref q369])), (q369, .inl (cA370, 3, .inr (.inr (.inr (.inr f386)))))]) (w1 := [(q387, .inr (3, [.int 0, .int 0, .ref (g9391 0), .ref (g9391 1)]))]) hP hD [2] [0, 1] rfl rfl (by decide) (by decide) hk1 hFc hP1 hD1
  have hK := (hK.sub (tys' := [(cA370, .object RX3)]) [0] rfl).app hK1
  have hK : va_K (dC, dI) vwCl [(cA370, .object RX3)] s := hK
  have hP : va_P (dC, dI) vwCl [(h0, .inr (5, [.int 0, .ref q333, .ref q337, .ref q341, .int 0, .ref q345, .ref q349, .ref q353, .ref q357, .ref q361, .ref q365, .int 0, .int 0, .ref q369])), (q369, .inl (cA370, 3, .inr (.inr (.inr (.inr f386))))), (q387, .inr (3, [.int 0, .int 0, .ref (g9391 0), .ref (g9391 1)]))] H389 := hP
  have hD : va_D A [(h0, .inr (5, [.int 0, .ref q333, .ref q337, .ref q341, .int 0, .ref q345, .ref q349, .ref q353, .ref q357, .ref q361, .ref q365, .int 0, .int 0, .ref q369])), (q369, .inl (cA370, 3, .inr (.inr (.inr (.inr f386))))), (q387, .inr (3, [.int 0, .int 0, .ref (g9391 0), .ref (g9391 1)]))] := hD
  refine W.widen (k := 19) (n := 105) (Nat.le_of_ble_eq_true rfl) (Nat.le_of_ble_eq_true rfl) ?_
  refine va_astq hx hb hK hP hD hS 1 0 2 3 rfl rfl rfl rfl (by unfold vp_in; decide) dX5_init_103 (fun H392 locs hP hD hS => ?_)
  generalize hff393 : va_up f386 (2 : Int32).toNatClampNeg (some q387) = f393 at hP hD
  have hP : va_P (dC, dI) vwCl [(h0, .inr (5, [.int 0, .ref q333, .ref q337, .ref q341, .int 0, .ref q345, .ref q349, .ref q353, .ref q357, .ref q361, .ref q365, .int 0, .int 0, .ref q369])), (q369, .inl (cA370, 3, .inr (.inr (.inr (.inr f393))))), (q387, .inr (3, [.int 0, .int 0, .ref (g9391 0), .ref (g9391 1)]))] H392 := hP
  have hD : va_D A [(h0, .inr (5, [.int 0, .ref q333, .ref q337, .ref q341, .int 0, .ref q345, .ref q349, .ref q353, .ref q357, .ref q361, .ref q365, .int 0, .int 0, .ref q369])), (q369, .inl (cA370, 3, .inr (.inr (.inr (.inr f393))))), (q387, .inr (3, [.int 0, .int 0, .ref (g9391 0), .ref (g9391 1)]))] := hD
  have hP := hP.sub (ws' := [(h0, .inr (5, [.int 0, .ref q333, .ref q337, .ref q341, .int 0, .ref q345, .ref q349, .ref q353, .ref q357, .ref q361, .ref q365, .int 0, .int 0, .ref q369])), (q369, .inl (cA370, 3, .inr (.inr (.inr (.inr f393)))))]) [0, 1] rfl
  have hD := hD.sub (ws' := [(h0, .inr (5, [.int 0, .ref q333, .ref q337, .ref q341, .int 0, .ref q345, .ref q349, .ref q353, .ref q357, .ref q361, .ref q365, .int 0, .int 0, .ref q369])), (q369, .inl (cA370, 3, .inr (.inr (.inr (.inr f393)))))]) [0, 1] (by decide) rfl
  have hK := hK.sub (tys' := [(cA370, .object RX3)]) [0] rfl
  refine lv_iinc (v := 3) (lv' := [(1, .int 3), (0, .ref h0)]) hx hb dX5_init_104 hl (k := 0) rfl (by decide) (by decide) rfl (fun ls hl => ?_)
  refine lv_goto (tgt := 86) hx hb dX5_init_107 (by decide) ?_
  refine lv_iload_n hx hb dX5_init_86 rfl (lv_at hl 0 rfl) ?_
  refine lv_iconst (v := 3) hx hb dX5_init_87 (by decide) ?_
  refine lv_icmp_ge (tgt := 110) hx hb dX5_init_88 (by decide) (fun _ => ?_) (fun h9 => absurd (by decide) h9)
  have hP := hP.sub (ws' := [(h0, .inr (5, [.int 0, .ref q333, .ref q337, .ref q341, .int 0, .ref q345, .ref q349, .ref q353, .ref q357, .ref q361, .ref q365, .int 0, .int 0, .ref q369]))]) [0] rfl
  have hD := hD.sub (ws' := [(h0, .inr (5, [.int 0, .ref q333, .ref q337, .ref q341, .int 0, .ref q345, .ref q349, .ref q353, .ref q357, .ref q361, .ref q365, .int 0, .int 0, .ref q369]))]) [0] (by decide) rfl
  have hK := hK.sub (tys' := []) [] rfl
  refine W.widen (k := 19) (n := 105) (Nat.le_of_ble_eq_true rfl) (Nat.le_of_ble_eq_true rfl) ?_
  exact W.vret hx hb hr (fun t ht hW => ⟨⟨(), rfl, trivial, ⟨(fun k => [q333, q337, q341, q345, q349, q353, q357, q361, q365, q369].getD k 0), by rw [ht]; exact hP, va_K.moved hW.alike hK, hD⟩⟩, hS.F ht⟩) hS.2.2 dX5_init_110
set_option maxHeartbeats 4000000 in
set_option maxRecDepth 100000 in
theorem c_X1_init (l : Launch) (dC : Nat → ClassId) (dI : Nat → Nat → Nat) (sz : Nat) (h0 : Nat) : Met l yX1_init (Cond.code yX1_init cX1_init 1 none :: gU) ({ frames := 1, cells := 0, slots := 0, locals := 12 }) (gP dC dI sz [(h0, .inr (1, [.int 0, .int 0, .int 0, .int 0, .int 0, .int 0, .int 0, .int 0]))] [] [.ref h0]) (va_Qv (fun (_ : Unit) => True) (fun (_ : Unit) (t9 : State) => ∃ (g9 : Nat → Nat), va_P (dC, dI) vwCl [(h0, .inr (1, [.int 0, .int 0, .int 0, .int 0, .int 0, .int 0, .int 0, .int 0]))] t9.heap ∧ va_K (dC, dI) vwCl [] t9 ∧ va_D (va_A [(h0, .inr (1, [.int 0, .int 0, .int 0, .int 0, .int 0, .int 0, .int 0, .int 0]))] sz) [(h0, .inr (1, [.int 0, .int 0, .int 0, .int 0, .int 0, .int 0, .int 0, .int 0]))]) (va_A [(h0, .inr (1, [.int 0, .int 0, .int 0, .int 0, .int 0, .int 0, .int 0, .int 0]))] sz)) 0 0 (va_A [(h0, .inr (1, [.int 0, .int 0, .int 0, .int 0, .int 0, .int 0, .int 0, .int 0]))] sz) := by
  refine Met.ofW (cc := cX1_init) (maxL := 1) (ret := none) (by decide) rfl ?_
  intro p e s m args below meth c s₁ B hml hv
  obtain ⟨rfl, hsz, hP, hK, hD0, hE⟩ := hv
  have hx := B.exec
  have hb := B.bytes
  have hr := B.returns
  have hts0 := atoms_spec (ws := Cond.code yX1_init cX1_init 1 none :: gU) B.pre
  have hts : ∀ w ∈ gU, w.before _ s = true := fun w h => hts0 w (List.mem_cons_of_mem _ h)
  have hown : s.vm.findClass RX1 = some m.cls := findClass_of_methodNamed B.named
  have hlocks := B.notSynchronized
  have hin : meth.name = "<init>" := (name_of_methodNamed B.named B.method).1
  subst hsz
  have hD := hD0.self (sz := s.heap.size)
  generalize hAe : va_A [(h0, .inr (1, [.int 0, .int 0, .int 0, .int 0, .int 0, .int 0, .int 0, .int 0]))] s.heap.size = A at hD ⊢
  have hA : ∀ q : Nat, s.heap.size ≤ q → A q := fun q h => by rw [← hAe]; exact Or.inr h
  have hS : va_S A s.heap s.heap [] := va_S.rf
  have hP : va_P (dC, dI) vwCl [(h0, .inr (1, [.int 0, .int 0, .int 0, .int 0, .int 0, .int 0, .int 0, .int 0]))] s.heap := hP
  have hl := lv_entry ([.ref h0]) (n := 1) (Nat.le_of_ble_eq_true rfl)
  rw [lg_entry_eq]
  generalize (lg_sl ([.ref h0]) ++ List.replicate (1 - (lg_sl ([.ref h0])).length) Slot.unset).toArray = ls at hl ⊢
  have hl : lv_has ls 1 [(0, .ref h0)] := hl
  refine lv_aload_n hx hb dX1_init_0 rfl (lv_at hl 0 rfl) ?_
  refine W.objInit hx hb hown (hts _ u_316) (hts _ u_29) (hts _ u_30) rfl (by rw [hml]; exact hl.1) rfl dX1_init_1 (Nat.le_of_ble_eq_true rfl) (Nat.le_of_ble_eq_true rfl) ?_
  refine W.eq (g2 := F0 m 4 ls []) rfl ?_
  refine W.widen (k := 0) (n := 0) (Nat.le_of_ble_eq_true rfl) (Nat.le_of_ble_eq_true rfl) ?_
  exact W.vret hx hb hr (fun t ht hW => ⟨⟨(), rfl, trivial, ⟨(fun _ => 0), by rw [ht]; exact hP, va_K.moved hW.alike hK, hD⟩⟩, hS.F ht⟩) hS.2.2 dX1_init_4
set_option maxHeartbeats 4000000 in
set_option maxRecDepth 100000 in
theorem c_X2_init (l : Launch) (dC : Nat → ClassId) (dI : Nat → Nat → Nat) (sz : Nat) (h0 : Nat) : Met l yX2_init (Cond.code yX2_init cX2_init 1 none :: gU) ({ frames := 1, cells := 2, slots := 4096, locals := 23 }) (gP dC dI sz [(h0, .inr (2, [.null, .null, .int 0]))] [] [.ref h0]) (va_Qv (fun (_ : Unit) => True) (fun (_ : Unit) (t9 : State) => va_P (dC, dI) vwCl [] t9.heap ∧ va_K (dC, dI) vwCl [] t9 ∧ va_D (va_A [(h0, .inr (2, [.null, .null, .int 0]))] sz) []) (va_A [(h0, .inr (2, [.null, .null, .int 0]))] sz)) 2 4096 (va_A [(h0, .inr (2, [.null, .null, .int 0]))] sz) := by
  refine Met.ofW (cc := cX2_init) (maxL := 1) (ret := none) (by decide) rfl ?_
  intro p e s m args below meth c s₁ B hml hv
  obtain ⟨rfl, hsz, hP, hK, hD0, hE⟩ := hv
  have hx := B.exec
  have hb := B.bytes
  have hr := B.returns
  have hts0 := atoms_spec (ws := Cond.code yX2_init cX2_init 1 none :: gU) B.pre
  have hts : ∀ w ∈ gU, w.before _ s = true := fun w h => hts0 w (List.mem_cons_of_mem _ h)
  have hown : s.vm.findClass RX2 = some m.cls := findClass_of_methodNamed B.named
  have hlocks := B.notSynchronized
  have hin : meth.name = "<init>" := (name_of_methodNamed B.named B.method).1
  subst hsz
  have hD := hD0.self (sz := s.heap.size)
  generalize hAe : va_A [(h0, .inr (2, [.null, .null, .int 0]))] s.heap.size = A at hD ⊢
  have hA : ∀ q : Nat, s.heap.size ≤ q → A q := fun q h => by rw [← hAe]; exact Or.inr h
  have hS : va_S A s.heap s.heap [] := va_S.rf
  have hP : va_P (dC, dI) vwCl [(h0, .inr (2, [.null, .null, .int 0]))] s.heap := hP
  have hl := lv_entry ([.ref h0]) (n := 1) (Nat.le_of_ble_eq_true rfl)
  rw [lg_entry_eq]
  generalize (lg_sl ([.ref h0]) ++ List.replicate (1 - (lg_sl ([.ref h0])).length) Slot.unset).toArray = ls at hl ⊢
  have hl : lv_has ls 1 [(0, .ref h0)] := hl
  refine lv_aload_n hx hb dX2_init_0 rfl (lv_at hl 0 rfl) ?_
  refine W.objInit hx hb hown (hts _ u_298) (hts _ u_29) (hts _ u_30) rfl (by rw [hml]; exact hl.1) rfl dX2_init_1 (Nat.le_of_ble_eq_true rfl) (Nat.le_of_ble_eq_true rfl) ?_
  refine W.eq (g2 := F0 m 4 ls []) rfl ?_
  refine lv_aload_n hx hb dX2_init_4 rfl (lv_at hl 0 rfl) ?_
  refine lv_sipush (v := 2048) hx hb dX2_init_5 (by decide) ?_
  refine va_newa (atype := .int) (ty := .int) (N' := 2048) (a0 := (2048, .inl (fun _ => 0))) hx hb (hts _ u_80) rfl hK hP hD hS hA (fun _ => rfl) (by decide) (by decide) (Nat.le_of_ble_eq_true rfl) (Nat.le_of_ble_eq_true rfl) (Nat.le_of_ble_eq_true rfl) dX2_init_8 (fun q394 cA395 H396 hK hP hD hS => ?_)
  refine W.widen (k := 1) (n := 2048) (Nat.le_of_ble_eq_true rfl) (Nat.le_of_ble_eq_true rfl) ?_
  have hK : va_K (dC, dI) vwCl [(cA395, .int)] s := hK
  have hP : va_P (dC, dI) vwCl [(h0, .inr (2, [.null, .null, .int 0])), (q394, .inl (cA395, 2048, .inl (fun _ => 0)))] H396 := hP
  have hD : va_D A [(h0, .inr (2, [.null, .null, .int 0])), (q394, .inl (cA395, 2048, .inl (fun _ => 0)))] := hD
  refine va_putF (D := (dC, dI)) (ci := 2) (v := .ref q394) (ty := (.array .int)) (C := RX2) (T := TX2) (N := 3) hx hb hts gX2 tyX2 tyX2_ok nmX2 hown hK hP hD hS 0 rfl rfl 0 (by decide) (hts _ u_300) (fun _ h9 => h9) rfl hin rfl (by decide +kernel) rfl rfl (Nat.le_of_ble_eq_true rfl) dX2_init_10 (fun H397 locs hP hD hS => ?_)
  have hP : va_P (dC, dI) vwCl [(h0, .inr (2, [.ref q394, .null, .int 0])), (q394, .inl (cA395, 2048, .inl (fun _ => 0)))] H397 := hP
  have hD : va_D A [(h0, .inr (2, [.ref q394, .null, .int 0])), (q394, .inl (cA395, 2048, .inl (fun _ => 0)))] := hD
  refine lv_aload_n hx hb dX2_init_13 rfl (lv_at hl 0 rfl) ?_
  refine lv_sipush (v := 2048) hx hb dX2_init_14 (by decide) ?_
  refine va_newa (atype := .int) (ty := .int) (N' := 2048) (a0 := (2048, .inl (fun _ => 0))) hx hb (hts _ u_80) rfl hK hP hD hS hA (fun _ => rfl) (by decide) (by decide) (Nat.le_of_ble_eq_true rfl) (Nat.le_of_ble_eq_true rfl) (Nat.le_of_ble_eq_true rfl) dX2_init_17 (fun q398 cA399 H400 hK hP hD hS => ?_)
  refine W.widen (k := 2) (n := 4096) (Nat.le_of_ble_eq_true rfl) (Nat.le_of_ble_eq_true rfl) ?_
  have hK : va_K (dC, dI) vwCl [(cA395, .int), (cA399, .int)] s := hK
  have hP : va_P (dC, dI) vwCl [(h0, .inr (2, [.ref q394, .null, .int 0])), (q394, .inl (cA395, 2048, .inl (fun _ => 0))), (q398, .inl (cA399, 2048, .inl (fun _ => 0)))] H400 := hP
  have hD : va_D A [(h0, .inr (2, [.ref q394, .null, .int 0])), (q394, .inl (cA395, 2048, .inl (fun _ => 0))), (q398, .inl (cA399, 2048, .inl (fun _ => 0)))] := hD
  have hP := hP.sub (ws' := [(h0, .inr (2, [.ref q394, .null, .int 0])), (q394, .inl (cA395, 2048, .inl (fun _ => 0)))]) [0, 1] rfl
  have hD := hD.sub (ws' := [(h0, .inr (2, [.ref q394, .null, .int 0])), (q394, .inl (cA395, 2048, .inl (fun _ => 0)))]) [0, 1] (by decide) rfl
  have hK := hK.sub (tys' := [(cA395, .int)]) [0] rfl
  refine va_putF (D := (dC, dI)) (ci := 2) (v := .ref q398) (ty := (.array .int)) (C := RX2) (T := TX2) (N := 3) hx hb hts gX2 tyX2 tyX2_ok nmX2 hown hK hP hD hS 0 rfl rfl 1 (by decide) (hts _ u_301) (fun _ h9 => h9) rfl hin rfl (by decide +kernel) rfl rfl (Nat.le_of_ble_eq_true rfl) dX2_init_19 (fun H401 locs hP hD hS => ?_)
  have hP : va_P (dC, dI) vwCl [(h0, .inr (2, [.ref q394, .ref q398, .int 0])), (q394, .inl (cA395, 2048, .inl (fun _ => 0)))] H401 := hP
  have hD : va_D A [(h0, .inr (2, [.ref q394, .ref q398, .int 0])), (q394, .inl (cA395, 2048, .inl (fun _ => 0)))] := hD
  refine lv_aload_n hx hb dX2_init_22 rfl (lv_at hl 0 rfl) ?_
  refine va_get (D := (dC, dI)) (ci := 2) (v := .ref q394) (C := RX2) (T := TX2) (N := 3) hx hb hts gX2 hown hK hP 0 rfl rfl 0 (by decide) (hts _ u_300) (fun _ h9 => h9) rfl dX2_init_23 ?_
  refine lv_iconst (v := (-1)) hx hb dX2_init_26 (by decide) ?_
  have hPc := hP.sub (ws' := [(q394, .inl (cA395, 2048, .inl (fun _ => 0)))]) [1] rfl
  have hDc := hD.sub (ws' := [(q394, .inl (cA395, 2048, .inl (fun _ => 0)))]) [1] (by decide) rfl
  have hKc := hK.sub (tys' := [(cA395, .int)]) [0] rfl
  have hFc := va_free (wc := [(q394, .inl (cA395, 2048, .inl (fun _ => 0)))]) hD hS hA [1] rfl
  refine va_callv (va_runS (As := [.ref q394, .int (-1)]) (rest := []) ⟨hx, hb, hml, hown, hts⟩ (c_J7_fill_53178 l dC dI H401.size q394 cA395 2048 (by decide) (fun _ => 0) (-1)) (va_cwS 2 hts (gS u_299 u_38 u_3 u_39) rfl rfl rfl (by decide +kernel) ⟨Nat.le_of_ble_eq_true rfl, Nat.le_of_ble_eq_true rfl⟩) ⟨gP_blind, gP_call hPc hKc hDc hE⟩ rfl rfl hl.1 rfl (lv_room (Nat.le_of_ble_eq_true rfl)) dX2_init_27 ⟨(Nat.le_of_ble_eq_true rfl), (Nat.le_of_ble_eq_true rfl)⟩) hS (fun q _ h => hFc q h) hFc (fun u9 t9 H402 locs ht hvm hw hB hz1 hk1 hS => ?_)
  obtain ⟨f2404, hP1, hK1, hD1⟩ := hB
  rw [ht] at hP1
  have hK1 := va_K.moved hvm.symm hK1
  obtain ⟨hP, hD⟩ := va_join (wr := [(h0, .inr (2, [.ref q394, .ref q398, .int 0]))]) (w1 := [(q394, .inl (cA395, 2048, .inl f2404))]) hP hD [1] [0] rfl rfl (by decide) (by decide) hk1 hFc hP1 hD1
  have hK := (hK.sub (tys' := []) [] rfl).app hK1
  have hK : va_K (dC, dI) vwCl [(cA395, .int)] s := hK
  have hP : va_P (dC, dI) vwCl [(h0, .inr (2, [.ref q394, .ref q398, .int 0])), (q394, .inl (cA395, 2048, .inl f2404))] H402 := hP
  have hD : va_D A [(h0, .inr (2, [.ref q394, .ref q398, .int 0])), (q394, .inl (cA395, 2048, .inl f2404))] := hD
  have hP := hP.sub (ws' := []) [] rfl
  have hD := hD.sub (ws' := []) [] (by decide) rfl
  have hK := hK.sub (tys' := []) [] rfl
  refine W.widen (k := 2) (n := 4096) (Nat.le_of_ble_eq_true rfl) (Nat.le_of_ble_eq_true rfl) ?_
  exact W.vret hx hb hr (fun t ht hW => ⟨⟨(), rfl, trivial, ⟨by rw [ht]; exact hP, va_K.moved hW.alike hK, hD⟩⟩, hS.F ht⟩) hS.2.2 dX2_init_30
set_option maxHeartbeats 4000000 in
set_option maxRecDepth 100000 in
theorem c_X8_init (l : Launch) (dC : Nat → ClassId) (dI : Nat → Nat → Nat) (sz : Nat) (h0 : Nat) : Met l yX8_init (Cond.code yX8_init cX8_init 1 none :: gU) ({ frames := 1, cells := 23, slots := 2550, locals := 12 }) (gP dC dI sz [(h0, .inr (8, [.null, .null, .null]))] [] [.ref h0]) (va_Qv (fun (_ : Unit) => True) (fun (_ : Unit) (t9 : State) => ∃ (cn : Nat), ∃ (cC : ClassId), ∃ (gB : Nat → Nat), va_P (dC, dI) vwCl [(h0, .inr (8, oB cn gB)), (cn, .inl (cC, 10, .inl (fun _ => 0)))] t9.heap ∧ va_K (dC, dI) vwCl [(cC, .int)] t9 ∧ va_D (va_A [(h0, .inr (8, [.null, .null, .null]))] sz) [(h0, .inr (8, oB cn gB)), (cn, .inl (cC, 10, .inl (fun _ => 0)))]) (va_A [(h0, .inr (8, [.null, .null, .null]))] sz)) 23 2550 (va_A [(h0, .inr (8, [.null, .null, .null]))] sz) := by
  refine Met.ofW (cc := cX8_init) (maxL := 1) (ret := none) (by decide) rfl ?_
  intro p e s m args below meth c s₁ B hml hv
  obtain ⟨rfl, hsz, hP, hK, hD0, hE⟩ := hv
  have hx := B.exec
  have hb := B.bytes
  have hr := B.returns
  have hts0 := atoms_spec (ws := Cond.code yX8_init cX8_init 1 none :: gU) B.pre
  have hts : ∀ w ∈ gU, w.before _ s = true := fun w h => hts0 w (List.mem_cons_of_mem _ h)
  have hown : s.vm.findClass RX8 = some m.cls := findClass_of_methodNamed B.named
  have hlocks := B.notSynchronized
  have hin : meth.name = "<init>" := (name_of_methodNamed B.named B.method).1
  subst hsz
  have hD := hD0.self (sz := s.heap.size)
  generalize hAe : va_A [(h0, .inr (8, [.null, .null, .null]))] s.heap.size = A at hD ⊢
  have hA : ∀ q : Nat, s.heap.size ≤ q → A q := fun q h => by rw [← hAe]; exact Or.inr h
  have hS : va_S A s.heap s.heap [] := va_S.rf
  have hP : va_P (dC, dI) vwCl [(h0, .inr (8, [.null, .null, .null]))] s.heap := hP
  have hl := lv_entry ([.ref h0]) (n := 1) (Nat.le_of_ble_eq_true rfl)
  rw [lg_entry_eq]
  generalize (lg_sl ([.ref h0]) ++ List.replicate (1 - (lg_sl ([.ref h0])).length) Slot.unset).toArray = ls at hl ⊢
  have hl : lv_has ls 1 [(0, .ref h0)] := hl
  obtain ⟨cy, hcy⟩ := gcy (hts _ u_80)
  refine lv_aload_n hx hb dX8_init_0 rfl (lv_at hl 0 rfl) ?_
  refine W.objInit hx hb hown (hts _ u_238) (hts _ u_29) (hts _ u_30) rfl (by rw [hml]; exact hl.1) rfl dX8_init_1 (Nat.le_of_ble_eq_true rfl) (Nat.le_of_ble_eq_true rfl) ?_
  refine W.eq (g2 := F0 m 4 ls []) rfl ?_
  refine lv_aload_n hx hb dX8_init_4 rfl (lv_at hl 0 rfl) ?_
  refine lv_bipush (v := 10) hx hb dX8_init_5 (by decide) ?_
  refine lv_bipush (v := 126) hx hb dX8_init_7 (by decide) ?_
  refine va_mna (X := [(h0, .inr (8, [.null, .null, .null]))]) (L := []) (f := fun _ => .inl (cy, (0, .inl (fun _ => 0)))) (ty := .int) (cy := cy) (N' := 10) (K' := 126) (z := (126, .inl (fun _ => 0))) hx hb hown (hts _ u_239) hE.2.2.2.2.1 (hts _ u_80) hcy hK hP hD hS hA (by decide) (by decide) (by decide) (by decide) (Nat.le_of_ble_eq_true rfl) (Nat.le_of_ble_eq_true rfl) (Nat.le_of_ble_eq_true rfl) (by decide) (by decide) (Nat.le_of_ble_eq_true rfl) (Nat.le_of_ble_eq_true rfl) (mna_z 126) dX8_init_9 (fun q405 r406 cA407 H408 hr1 hr2 hK hP hD hS => ?_)
  have hP := hP.sub (ws' := [(h0, .inr (8, [.null, .null, .null]))]) [0] rfl
  have hD := hD.sub (ws' := [(h0, .inr (8, [.null, .null, .null]))]) [0] (by decide) rfl
  have hK := hK.sub (tys' := []) [] rfl
  refine W.widen (k := 11) (n := 1270) (Nat.le_of_ble_eq_true rfl) (Nat.le_of_ble_eq_true rfl) ?_
  refine va_putF (D := (dC, dI)) (ci := 8) (v := .ref q405) (ty := (.array (.array .int))) (C := RX8) (T := TX8) (N := 3) hx hb hts gX8 tyX8 tyX8_ok nmX8 hown hK hP hD hS 0 rfl rfl 0 (by decide) (hts _ u_241) (fun _ h9 => h9) rfl hin rfl (by decide +kernel) rfl rfl (Nat.le_of_ble_eq_true rfl) dX8_init_13 (fun H409 locs hP hD hS => ?_)
  have hP : va_P (dC, dI) vwCl [(h0, .inr (8, [.ref q405, .null, .null]))] H409 := hP
  have hD : va_D A [(h0, .inr (8, [.ref q405, .null, .null]))] := hD
  refine lv_aload_n hx hb dX8_init_16 rfl (lv_at hl 0 rfl) ?_
  refine lv_bipush (v := 10) hx hb dX8_init_17 (by decide) ?_
  refine lv_bipush (v := 126) hx hb dX8_init_19 (by decide) ?_
  refine va_mna (X := [(h0, .inr (8, [.ref q405, .null, .null]))]) (L := []) (f := fun _ => .inl (cy, (0, .inl (fun _ => 0)))) (ty := .int) (cy := cy) (N' := 10) (K' := 126) (z := (126, .inl (fun _ => 0))) hx hb hown (hts _ u_239) hE.2.2.2.2.1 (hts _ u_80) hcy hK hP hD hS hA (by decide) (by decide) (by decide) (by decide) (Nat.le_of_ble_eq_true rfl) (Nat.le_of_ble_eq_true rfl) (Nat.le_of_ble_eq_true rfl) (by decide) (by decide) (Nat.le_of_ble_eq_true rfl) (Nat.le_of_ble_eq_true rfl) (mna_z 126) dX8_init_21 (fun q410 r411 cA412 H413 hr1 hr2 hK hP hD hS => ?_)
  have hP := hP.sub (ws' := [(h0, .inr (8, [.ref q405, .null, .null]))]) [0] rfl
  have hD := hD.sub (ws' := [(h0, .inr (8, [.ref q405, .null, .null]))]) [0] (by decide) rfl
  have hK := hK.sub (tys' := []) [] rfl
  refine W.widen (k := 22) (n := 2540) (Nat.le_of_ble_eq_true rfl) (Nat.le_of_ble_eq_true rfl) ?_
  refine va_putF (D := (dC, dI)) (ci := 8) (v := .ref q410) (ty := (.array (.array .int))) (C := RX8) (T := TX8) (N := 3) hx hb hts gX8 tyX8 tyX8_ok nmX8 hown hK hP hD hS 0 rfl rfl 1 (by decide) (hts _ u_244) (fun _ h9 => h9) rfl hin rfl (by decide +kernel) rfl rfl (Nat.le_of_ble_eq_true rfl) dX8_init_25 (fun H414 locs hP hD hS => ?_)
  have hP : va_P (dC, dI) vwCl [(h0, .inr (8, [.ref q405, .ref q410, .null]))] H414 := hP
  have hD : va_D A [(h0, .inr (8, [.ref q405, .ref q410, .null]))] := hD
  refine lv_aload_n hx hb dX8_init_28 rfl (lv_at hl 0 rfl) ?_
  refine lv_bipush (v := 10) hx hb dX8_init_29 (by decide) ?_
  refine va_newa (atype := .int) (ty := .int) (N' := 10) (a0 := (10, .inl (fun _ => 0))) hx hb (hts _ u_80) rfl hK hP hD hS hA (fun _ => rfl) (by decide) (by decide) (Nat.le_of_ble_eq_true rfl) (Nat.le_of_ble_eq_true rfl) (Nat.le_of_ble_eq_true rfl) dX8_init_31 (fun q415 cA416 H417 hK hP hD hS => ?_)
  refine W.widen (k := 23) (n := 2550) (Nat.le_of_ble_eq_true rfl) (Nat.le_of_ble_eq_true rfl) ?_
  have hK : va_K (dC, dI) vwCl [(cA416, .int)] s := hK
  have hP : va_P (dC, dI) vwCl [(h0, .inr (8, [.ref q405, .ref q410, .null])), (q415, .inl (cA416, 10, .inl (fun _ => 0)))] H417 := hP
  have hD : va_D A [(h0, .inr (8, [.ref q405, .ref q410, .null])), (q415, .inl (cA416, 10, .inl (fun _ => 0)))] := hD
  refine va_putF (D := (dC, dI)) (ci := 8) (v := .ref q415) (ty := (.array .int)) (C := RX8) (T := TX8) (N := 3) hx hb hts gX8 tyX8 tyX8_ok nmX8 hown hK hP hD hS 0 rfl rfl 2 (by decide) (hts _ u_247) (fun _ h9 => h9) rfl hin rfl (by decide +kernel) rfl rfl (Nat.le_of_ble_eq_true rfl) dX8_init_33 (fun H418 locs hP hD hS => ?_)
  have hP : va_P (dC, dI) vwCl [(h0, .inr (8, [.ref q405, .ref q410, .ref q415])), (q415, .inl (cA416, 10, .inl (fun _ => 0)))] H418 := hP
  have hD : va_D A [(h0, .inr (8, [.ref q405, .ref q410, .ref q415])), (q415, .inl (cA416, 10, .inl (fun _ => 0)))] := hD
  refine W.widen (k := 23) (n := 2550) (Nat.le_of_ble_eq_true rfl) (Nat.le_of_ble_eq_true rfl) ?_
  exact W.vret hx hb hr (fun t ht hW => ⟨⟨(), rfl, trivial, ⟨q415, cA416, (fun k => [q405, q410].getD k 0), by rw [ht]; exact hP, va_K.moved hW.alike hK, hD⟩⟩, hS.F ht⟩) hS.2.2 dX8_init_36
