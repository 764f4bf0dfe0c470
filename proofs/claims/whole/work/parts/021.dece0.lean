theorem dX0_init_0 : decode cX0_init 0 = .ok (.aload_n 0, 1) := by decide +kernel
theorem dX0_init_1 : decode cX0_init 1 = .ok (.invokespecial 1, 3) := by decide +kernel
theorem dX0_init_4 : decode cX0_init 4 = .ok (.return_, 1) := by decide +kernel
theorem dX1_init_0 : decode cX1_init 0 = .ok (.aload_n 0, 1) := by decide +kernel
theorem dX1_init_1 : decode cX1_init 1 = .ok (.invokespecial 3, 3) := by decide +kernel
theorem dX1_init_4 : decode cX1_init 4 = .ok (.aload_n 0, 1) := by decide +kernel
theorem dX1_init_5 : decode cX1_init 5 = .ok (.bipush 20, 2) := by decide +kernel
theorem dX1_init_7 : decode cX1_init 7 = .ok (.newarray .int, 2) := by decide +kernel
theorem dX1_init_9 : decode cX1_init 9 = .ok (.putfield 9, 3) := by decide +kernel
theorem dX1_init_12 : decode cX1_init 12 = .ok (.aload_n 0, 1) := by decide +kernel
theorem dX1_init_13 : decode cX1_init 13 = .ok (.bipush 20, 2) := by decide +kernel
theorem dX1_init_15 : decode cX1_init 15 = .ok (.newarray .int, 2) := by decide +kernel
theorem dX1_init_17 : decode cX1_init 17 = .ok (.putfield 15, 3) := by decide +kernel
theorem dX1_init_20 : decode cX1_init 20 = .ok (.aload_n 0, 1) := by decide +kernel
theorem dX1_init_21 : decode cX1_init 21 = .ok (.bipush 20, 2) := by decide +kernel
theorem dX1_init_23 : decode cX1_init 23 = .ok (.newarray .int, 2) := by decide +kernel
theorem dX1_init_25 : decode cX1_init 25 = .ok (.putfield 18, 3) := by decide +kernel
theorem dX1_init_28 : decode cX1_init 28 = .ok (.aload_n 0, 1) := by decide +kernel
theorem dX1_init_29 : decode cX1_init 29 = .ok (.bipush 20, 2) := by decide +kernel
theorem dX1_init_31 : decode cX1_init 31 = .ok (.newarray .int, 2) := by decide +kernel
theorem dX1_init_33 : decode cX1_init 33 = .ok (.putfield 21, 3) := by decide +kernel
theorem dX1_init_36 : decode cX1_init 36 = .ok (.return_, 1) := by decide +kernel
theorem dX2_init_0 : decode cX2_init 0 = .ok (.aload_n 0, 1) := by decide +kernel
theorem dX2_init_1 : decode cX2_init 1 = .ok (.invokespecial 3, 3) := by decide +kernel
theorem dX2_init_4 : decode cX2_init 4 = .ok (.aload_n 0, 1) := by decide +kernel
theorem dX2_init_5 : decode cX2_init 5 = .ok (.bipush 64, 2) := by decide +kernel
theorem dX2_init_7 : decode cX2_init 7 = .ok (.newarray .int, 2) := by decide +kernel
theorem dX2_init_9 : decode cX2_init 9 = .ok (.putfield 9, 3) := by decide +kernel
theorem dX2_init_12 : decode cX2_init 12 = .ok (.aload_n 0, 1) := by decide +kernel
theorem dX2_init_13 : decode cX2_init 13 = .ok (.bipush 64, 2) := by decide +kernel
theorem dX2_init_15 : decode cX2_init 15 = .ok (.newarray .int, 2) := by decide +kernel
theorem dX2_init_17 : decode cX2_init 17 = .ok (.putfield 15, 3) := by decide +kernel
theorem dX2_init_20 : decode cX2_init 20 = .ok (.return_, 1) := by decide +kernel
theorem dX3_init_0 : decode cX3_init 0 = .ok (.aload_n 0, 1) := by decide +kernel
theorem dX3_init_1 : decode cX3_init 1 = .ok (.invokespecial 3, 3) := by decide +kernel
theorem dX3_init_4 : decode cX3_init 4 = .ok (.aload_n 0, 1) := by decide +kernel
theorem dX3_init_5 : decode cX3_init 5 = .ok (.new 9, 3) := by decide +kernel
theorem dX3_init_8 : decode cX3_init 8 = .ok (.dup, 1) := by decide +kernel
theorem dX3_init_9 : decode cX3_init 9 = .ok (.invokespecial 11, 3) := by decide +kernel
theorem dX3_init_12 : decode cX3_init 12 = .ok (.putfield 12, 3) := by decide +kernel
theorem dX3_init_15 : decode cX3_init 15 = .ok (.aload_n 0, 1) := by decide +kernel
theorem dX3_init_16 : decode cX3_init 16 = .ok (.new 18, 3) := by decide +kernel
theorem dX3_init_19 : decode cX3_init 19 = .ok (.dup, 1) := by decide +kernel
theorem dX3_init_20 : decode cX3_init 20 = .ok (.invokespecial 20, 3) := by decide +kernel
theorem dX3_init_23 : decode cX3_init 23 = .ok (.putfield 21, 3) := by decide +kernel
theorem dX3_init_26 : decode cX3_init 26 = .ok (.aload_n 0, 1) := by decide +kernel
theorem dX3_init_27 : decode cX3_init 27 = .ok (.bipush 72, 2) := by decide +kernel
theorem dX3_init_29 : decode cX3_init 29 = .ok (.newarray .int, 2) := by decide +kernel
theorem dX3_init_31 : decode cX3_init 31 = .ok (.putfield 25, 3) := by decide +kernel
theorem dX3_init_34 : decode cX3_init 34 = .ok (.aload_n 0, 1) := by decide +kernel
theorem dX3_init_35 : decode cX3_init 35 = .ok (.iconst (-1), 1) := by decide +kernel
theorem dX3_init_36 : decode cX3_init 36 = .ok (.putfield 29, 3) := by decide +kernel
theorem dX3_init_39 : decode cX3_init 39 = .ok (.return_, 1) := by decide +kernel
theorem dX4_init_0 : decode cX4_init 0 = .ok (.aload_n 0, 1) := by decide +kernel
theorem dX4_init_1 : decode cX4_init 1 = .ok (.invokespecial 3, 3) := by decide +kernel
theorem dX4_init_4 : decode cX4_init 4 = .ok (.aload_n 0, 1) := by decide +kernel
theorem dX4_init_5 : decode cX4_init 5 = .ok (.bipush 6, 2) := by decide +kernel
theorem dX4_init_7 : decode cX4_init 7 = .ok (.newarray .int, 2) := by decide +kernel
theorem dX4_init_9 : decode cX4_init 9 = .ok (.putfield 9, 3) := by decide +kernel
theorem dX4_init_12 : decode cX4_init 12 = .ok (.aload_n 0, 1) := by decide +kernel
theorem dX4_init_13 : decode cX4_init 13 = .ok (.bipush 61, 2) := by decide +kernel
theorem dX4_init_15 : decode cX4_init 15 = .ok (.newarray .int, 2) := by decide +kernel
theorem dX4_init_17 : decode cX4_init 17 = .ok (.putfield 15, 3) := by decide +kernel
theorem dX4_init_20 : decode cX4_init 20 = .ok (.aload_n 0, 1) := by decide +kernel
theorem dX4_init_21 : decode cX4_init 21 = .ok (.bipush 8, 2) := by decide +kernel
theorem dX4_init_23 : decode cX4_init 23 = .ok (.newarray .int, 2) := by decide +kernel
theorem dX4_init_25 : decode cX4_init 25 = .ok (.putfield 18, 3) := by decide +kernel
theorem dX4_init_28 : decode cX4_init 28 = .ok (.aload_n 0, 1) := by decide +kernel
theorem dX4_init_29 : decode cX4_init 29 = .ok (.bipush 48, 2) := by decide +kernel
theorem dX4_init_31 : decode cX4_init 31 = .ok (.newarray .int, 2) := by decide +kernel
theorem dX4_init_33 : decode cX4_init 33 = .ok (.putfield 21, 3) := by decide +kernel
theorem dX4_init_36 : decode cX4_init 36 = .ok (.aload_n 0, 1) := by decide +kernel
theorem dX4_init_37 : decode cX4_init 37 = .ok (.sipush 1792, 3) := by decide +kernel
theorem dX4_init_40 : decode cX4_init 40 = .ok (.newarray .int, 2) := by decide +kernel
theorem dX4_init_42 : decode cX4_init 42 = .ok (.putfield 24, 3) := by decide +kernel
theorem dX4_init_45 : decode cX4_init 45 = .ok (.aload_n 0, 1) := by decide +kernel
theorem dX4_init_46 : decode cX4_init 46 = .ok (.bipush 6, 2) := by decide +kernel
theorem dX4_init_48 : decode cX4_init 48 = .ok (.newarray .int, 2) := by decide +kernel
theorem dX4_init_50 : decode cX4_init 50 = .ok (.putfield 27, 3) := by decide +kernel
theorem dX4_init_53 : decode cX4_init 53 = .ok (.aload_n 0, 1) := by decide +kernel
theorem dX4_init_54 : decode cX4_init 54 = .ok (.bipush 6, 2) := by decide +kernel
theorem dX4_init_56 : decode cX4_init 56 = .ok (.newarray .boolean, 2) := by decide +kernel
theorem dX4_init_58 : decode cX4_init 58 = .ok (.putfield 30, 3) := by decide +kernel
theorem dX4_init_61 : decode cX4_init 61 = .ok (.return_, 1) := by decide +kernel
theorem dX5_init_0 : decode cX5_init 0 = .ok (.aload_n 0, 1) := by decide +kernel
theorem dX5_init_1 : decode cX5_init 1 = .ok (.invokespecial 3, 3) := by decide +kernel
theorem dX5_init_4 : decode cX5_init 4 = .ok (.aload_n 0, 1) := by decide +kernel
theorem dX5_init_5 : decode cX5_init 5 = .ok (.iconst (-1), 1) := by decide +kernel
theorem dX5_init_6 : decode cX5_init 6 = .ok (.putfield 9, 3) := by decide +kernel
theorem dX5_init_9 : decode cX5_init 9 = .ok (.aload_n 0, 1) := by decide +kernel
theorem dX5_init_10 : decode cX5_init 10 = .ok (.bipush 24, 2) := by decide +kernel
theorem dX5_init_12 : decode cX5_init 12 = .ok (.newarray .int, 2) := by decide +kernel
theorem dX5_init_14 : decode cX5_init 14 = .ok (.putfield 15, 3) := by decide +kernel
theorem dX5_init_17 : decode cX5_init 17 = .ok (.aload_n 0, 1) := by decide +kernel
theorem dX5_init_18 : decode cX5_init 18 = .ok (.bipush 24, 2) := by decide +kernel
theorem dX5_init_20 : decode cX5_init 20 = .ok (.newarray .int, 2) := by decide +kernel
theorem dX5_init_22 : decode cX5_init 22 = .ok (.putfield 19, 3) := by decide +kernel
theorem dX5_init_25 : decode cX5_init 25 = .ok (.aload_n 0, 1) := by decide +kernel
theorem dX5_init_26 : decode cX5_init 26 = .ok (.bipush 24, 2) := by decide +kernel
theorem dX5_init_28 : decode cX5_init 28 = .ok (.newarray .int, 2) := by decide +kernel
theorem dX5_init_30 : decode cX5_init 30 = .ok (.putfield 22, 3) := by decide +kernel
theorem dX5_init_33 : decode cX5_init 33 = .ok (.aload_n 0, 1) := by decide +kernel
theorem dX5_init_34 : decode cX5_init 34 = .ok (.bipush 24, 2) := by decide +kernel
theorem dX5_init_36 : decode cX5_init 36 = .ok (.newarray .boolean, 2) := by decide +kernel
theorem dX5_init_38 : decode cX5_init 38 = .ok (.putfield 25, 3) := by decide +kernel
theorem dX5_init_41 : decode cX5_init 41 = .ok (.aload_n 0, 1) := by decide +kernel
theorem dX5_init_42 : decode cX5_init 42 = .ok (.bipush 24, 2) := by decide +kernel
theorem dX5_init_44 : decode cX5_init 44 = .ok (.newarray .int, 2) := by decide +kernel
theorem dX5_init_46 : decode cX5_init 46 = .ok (.putfield 29, 3) := by decide +kernel
theorem dX5_init_49 : decode cX5_init 49 = .ok (.aload_n 0, 1) := by decide +kernel
theorem dX5_init_50 : decode cX5_init 50 = .ok (.bipush 24, 2) := by decide +kernel
theorem dX5_init_52 : decode cX5_init 52 = .ok (.newarray .boolean, 2) := by decide +kernel
theorem dX5_init_54 : decode cX5_init 54 = .ok (.putfield 32, 3) := by decide +kernel
theorem dX5_init_57 : decode cX5_init 57 = .ok (.return_, 1) := by decide +kernel
theorem dX6_init_0 : decode cX6_init 0 = .ok (.aload_n 0, 1) := by decide +kernel
theorem dX6_init_1 : decode cX6_init 1 = .ok (.invokespecial 3, 3) := by decide +kernel
theorem dX6_init_4 : decode cX6_init 4 = .ok (.aload_n 0, 1) := by decide +kernel
theorem dX6_init_5 : decode cX6_init 5 = .ok (.bipush 48, 2) := by decide +kernel
theorem dX6_init_7 : decode cX6_init 7 = .ok (.newarray .int, 2) := by decide +kernel
theorem dX6_init_9 : decode cX6_init 9 = .ok (.putfield 9, 3) := by decide +kernel
theorem dX6_init_12 : decode cX6_init 12 = .ok (.aload_n 0, 1) := by decide +kernel
theorem dX6_init_13 : decode cX6_init 13 = .ok (.bipush 48, 2) := by decide +kernel
theorem dX6_init_15 : decode cX6_init 15 = .ok (.newarray .int, 2) := by decide +kernel
theorem dX6_init_17 : decode cX6_init 17 = .ok (.putfield 15, 3) := by decide +kernel
theorem dX6_init_20 : decode cX6_init 20 = .ok (.aload_n 0, 1) := by decide +kernel
theorem dX6_init_21 : decode cX6_init 21 = .ok (.bipush 6, 2) := by decide +kernel
theorem dX6_init_23 : decode cX6_init 23 = .ok (.newarray .int, 2) := by decide +kernel
theorem dX6_init_25 : decode cX6_init 25 = .ok (.putfield 18, 3) := by decide +kernel
theorem dX6_init_28 : decode cX6_init 28 = .ok (.aload_n 0, 1) := by decide +kernel
theorem dX6_init_29 : decode cX6_init 29 = .ok (.bipush 72, 2) := by decide +kernel
theorem dX6_init_31 : decode cX6_init 31 = .ok (.newarray .int, 2) := by decide +kernel
theorem dX6_init_33 : decode cX6_init 33 = .ok (.putfield 21, 3) := by decide +kernel
theorem dX6_init_36 : decode cX6_init 36 = .ok (.aload_n 0, 1) := by decide +kernel
theorem dX6_init_37 : decode cX6_init 37 = .ok (.bipush 72, 2) := by decide +kernel
theorem dX6_init_39 : decode cX6_init 39 = .ok (.newarray .int, 2) := by decide +kernel
theorem dX6_init_41 : decode cX6_init 41 = .ok (.putfield 24, 3) := by decide +kernel
theorem dX6_init_44 : decode cX6_init 44 = .ok (.aload_n 0, 1) := by decide +kernel
theorem dX6_init_45 : decode cX6_init 45 = .ok (.bipush 8, 2) := by decide +kernel
theorem dX6_init_47 : decode cX6_init 47 = .ok (.newarray .int, 2) := by decide +kernel
theorem dX6_init_49 : decode cX6_init 49 = .ok (.putfield 27, 3) := by decide +kernel
theorem dX6_init_52 : decode cX6_init 52 = .ok (.aload_n 0, 1) := by decide +kernel
theorem dX6_init_53 : decode cX6_init 53 = .ok (.bipush 8, 2) := by decide +kernel
theorem dX6_init_55 : decode cX6_init 55 = .ok (.newarray .int, 2) := by decide +kernel
theorem dX6_init_57 : decode cX6_init 57 = .ok (.putfield 30, 3) := by decide +kernel
theorem dX6_init_60 : decode cX6_init 60 = .ok (.aload_n 0, 1) := by decide +kernel
theorem dX6_init_61 : decode cX6_init 61 = .ok (.bipush 8, 2) := by decide +kernel
theorem dX6_init_63 : decode cX6_init 63 = .ok (.newarray .int, 2) := by decide +kernel
theorem dX6_init_65 : decode cX6_init 65 = .ok (.putfield 33, 3) := by decide +kernel
theorem dX6_init_68 : decode cX6_init 68 = .ok (.return_, 1) := by decide +kernel
theorem dX7_init_0 : decode cX7_init 0 = .ok (.aload_n 0, 1) := by decide +kernel
theorem dX7_init_1 : decode cX7_init 1 = .ok (.invokespecial 3, 3) := by decide +kernel
theorem dX7_init_4 : decode cX7_init 4 = .ok (.aload_n 0, 1) := by decide +kernel
theorem dX7_init_5 : decode cX7_init 5 = .ok (.sipush 700, 3) := by decide +kernel
theorem dX7_init_8 : decode cX7_init 8 = .ok (.newarray .byte, 2) := by decide +kernel
theorem dX7_init_10 : decode cX7_init 10 = .ok (.putfield 9, 3) := by decide +kernel
theorem dX7_init_13 : decode cX7_init 13 = .ok (.aload_n 0, 1) := by decide +kernel
theorem dX7_init_14 : decode cX7_init 14 = .ok (.bipush 37, 2) := by decide +kernel
theorem dX7_init_16 : decode cX7_init 16 = .ok (.putfield 15, 3) := by decide +kernel
theorem dX7_init_19 : decode cX7_init 19 = .ok (.return_, 1) := by decide +kernel
theorem dX8_init_0 : decode cX8_init 0 = .ok (.aload_n 0, 1) := by decide +kernel
theorem dX8_init_1 : decode cX8_init 1 = .ok (.invokespecial 3, 3) := by decide +kernel
theorem dX8_init_4 : decode cX8_init 4 = .ok (.aload_n 0, 1) := by decide +kernel
theorem dX8_init_5 : decode cX8_init 5 = .ok (.bipush 6, 2) := by decide +kernel
theorem dX8_init_7 : decode cX8_init 7 = .ok (.newarray .int, 2) := by decide +kernel
theorem dX8_init_9 : decode cX8_init 9 = .ok (.putfield 9, 3) := by decide +kernel
theorem dX8_init_12 : decode cX8_init 12 = .ok (.aload_n 0, 1) := by decide +kernel
theorem dX8_init_13 : decode cX8_init 13 = .ok (.bipush 6, 2) := by decide +kernel
theorem dX8_init_15 : decode cX8_init 15 = .ok (.newarray .int, 2) := by decide +kernel
theorem dX8_init_17 : decode cX8_init 17 = .ok (.putfield 15, 3) := by decide +kernel
theorem dX8_init_20 : decode cX8_init 20 = .ok (.aload_n 0, 1) := by decide +kernel
theorem dX8_init_21 : decode cX8_init 21 = .ok (.bipush 8, 2) := by decide +kernel
theorem dX8_init_23 : decode cX8_init 23 = .ok (.newarray .int, 2) := by decide +kernel
theorem dX8_init_25 : decode cX8_init 25 = .ok (.putfield 18, 3) := by decide +kernel
theorem dX8_init_28 : decode cX8_init 28 = .ok (.aload_n 0, 1) := by decide +kernel
theorem dX8_init_29 : decode cX8_init 29 = .ok (.bipush 8, 2) := by decide +kernel
theorem dX8_init_31 : decode cX8_init 31 = .ok (.newarray .int, 2) := by decide +kernel
theorem dX8_init_33 : decode cX8_init 33 = .ok (.putfield 21, 3) := by decide +kernel
theorem dX8_init_36 : decode cX8_init 36 = .ok (.aload_n 0, 1) := by decide +kernel
theorem dX8_init_37 : decode cX8_init 37 = .ok (.bipush 8, 2) := by decide +kernel
theorem dX8_init_39 : decode cX8_init 39 = .ok (.newarray .int, 2) := by decide +kernel
theorem dX8_init_41 : decode cX8_init 41 = .ok (.putfield 24, 3) := by decide +kernel
theorem dX8_init_44 : decode cX8_init 44 = .ok (.aload_n 0, 1) := by decide +kernel
theorem dX8_init_45 : decode cX8_init 45 = .ok (.bipush 8, 2) := by decide +kernel
theorem dX8_init_47 : decode cX8_init 47 = .ok (.newarray .int, 2) := by decide +kernel
theorem dX8_init_49 : decode cX8_init 49 = .ok (.putfield 27, 3) := by decide +kernel
theorem dX8_init_52 : decode cX8_init 52 = .ok (.aload_n 0, 1) := by decide +kernel
theorem dX8_init_53 : decode cX8_init 53 = .ok (.bipush 8, 2) := by decide +kernel
theorem dX8_init_55 : decode cX8_init 55 = .ok (.newarray .int, 2) := by decide +kernel
theorem dX8_init_57 : decode cX8_init 57 = .ok (.putfield 30, 3) := by decide +kernel
theorem dX8_init_60 : decode cX8_init 60 = .ok (.aload_n 0, 1) := by decide +kernel
theorem dX8_init_61 : decode cX8_init 61 = .ok (.bipush 14, 2) := by decide +kernel
theorem dX8_init_63 : decode cX8_init 63 = .ok (.anewarray 33, 3) := by decide +kernel
theorem dX8_init_66 : decode cX8_init 66 = .ok (.putfield 35, 3) := by decide +kernel
theorem dX8_init_69 : decode cX8_init 69 = .ok (.aload_n 0, 1) := by decide +kernel
theorem dX8_init_70 : decode cX8_init 70 = .ok (.bipush 6, 2) := by decide +kernel
theorem dX8_init_72 : decode cX8_init 72 = .ok (.anewarray 39, 3) := by decide +kernel
theorem dX8_init_75 : decode cX8_init 75 = .ok (.putfield 41, 3) := by decide +kernel
theorem dX8_init_78 : decode cX8_init 78 = .ok (.aload_n 0, 1) := by decide +kernel
theorem dX8_init_79 : decode cX8_init 79 = .ok (.iconst 4, 1) := by decide +kernel
theorem dX8_init_80 : decode cX8_init 80 = .ok (.newarray .int, 2) := by decide +kernel
theorem dX8_init_82 : decode cX8_init 82 = .ok (.putfield 45, 3) := by decide +kernel
theorem dX8_init_85 : decode cX8_init 85 = .ok (.aload_n 0, 1) := by decide +kernel
theorem dX8_init_86 : decode cX8_init 86 = .ok (.new 48, 3) := by decide +kernel
theorem dX8_init_89 : decode cX8_init 89 = .ok (.dup, 1) := by decide +kernel
theorem dX8_init_90 : decode cX8_init 90 = .ok (.invokespecial 50, 3) := by decide +kernel
theorem dX8_init_93 : decode cX8_init 93 = .ok (.putfield 51, 3) := by decide +kernel
theorem dX8_init_96 : decode cX8_init 96 = .ok (.aload_n 0, 1) := by decide +kernel
theorem dX8_init_97 : decode cX8_init 97 = .ok (.new 48, 3) := by decide +kernel
theorem dX8_init_100 : decode cX8_init 100 = .ok (.dup, 1) := by decide +kernel
theorem dX8_init_101 : decode cX8_init 101 = .ok (.invokespecial 50, 3) := by decide +kernel
theorem dX8_init_104 : decode cX8_init 104 = .ok (.putfield 55, 3) := by decide +kernel
theorem dX8_init_107 : decode cX8_init 107 = .ok (.aload_n 0, 1) := by decide +kernel
theorem dX8_init_108 : decode cX8_init 108 = .ok (.new 48, 3) := by decide +kernel
theorem dX8_init_111 : decode cX8_init 111 = .ok (.dup, 1) := by decide +kernel
theorem dX8_init_112 : decode cX8_init 112 = .ok (.invokespecial 50, 3) := by decide +kernel
theorem dX8_init_115 : decode cX8_init 115 = .ok (.putfield 58, 3) := by decide +kernel
theorem dX8_init_118 : decode cX8_init 118 = .ok (.iconst 0, 1) := by decide +kernel
theorem dX8_init_119 : decode cX8_init 119 = .ok (.istore_n 1, 1) := by decide +kernel
theorem dX8_init_120 : decode cX8_init 120 = .ok (.iload_n 1, 1) := by decide +kernel
theorem dX8_init_121 : decode cX8_init 121 = .ok (.bipush 14, 2) := by decide +kernel
theorem dX8_init_123 : decode cX8_init 123 = .ok (.if_icmp .ge 22, 3) := by decide +kernel
theorem dX8_init_126 : decode cX8_init 126 = .ok (.aload_n 0, 1) := by decide +kernel
theorem dX8_init_127 : decode cX8_init 127 = .ok (.getfield 35, 3) := by decide +kernel
theorem dX8_init_130 : decode cX8_init 130 = .ok (.iload_n 1, 1) := by decide +kernel
theorem dX8_init_131 : decode cX8_init 131 = .ok (.new 33, 3) := by decide +kernel
theorem dX8_init_134 : decode cX8_init 134 = .ok (.dup, 1) := by decide +kernel
theorem dX8_init_135 : decode cX8_init 135 = .ok (.invokespecial 61, 3) := by decide +kernel
theorem dX8_init_138 : decode cX8_init 138 = .ok (.aastore, 1) := by decide +kernel
theorem dX8_init_139 : decode cX8_init 139 = .ok (.iinc 1 1, 3) := by decide +kernel
theorem dX8_init_142 : decode cX8_init 142 = .ok (.goto (-22), 3) := by decide +kernel
theorem dX8_init_145 : decode cX8_init 145 = .ok (.iconst 0, 1) := by decide +kernel
theorem dX8_init_146 : decode cX8_init 146 = .ok (.istore_n 1, 1) := by decide +kernel
theorem dX8_init_147 : decode cX8_init 147 = .ok (.iload_n 1, 1) := by decide +kernel
theorem dX8_init_148 : decode cX8_init 148 = .ok (.bipush 6, 2) := by decide +kernel
theorem dX8_init_150 : decode cX8_init 150 = .ok (.if_icmp .ge 22, 3) := by decide +kernel
theorem dX8_init_153 : decode cX8_init 153 = .ok (.aload_n 0, 1) := by decide +kernel
theorem dX8_init_154 : decode cX8_init 154 = .ok (.getfield 41, 3) := by decide +kernel
theorem dX8_init_157 : decode cX8_init 157 = .ok (.iload_n 1, 1) := by decide +kernel
theorem dX8_init_158 : decode cX8_init 158 = .ok (.new 39, 3) := by decide +kernel
theorem dX8_init_161 : decode cX8_init 161 = .ok (.dup, 1) := by decide +kernel
theorem dX8_init_162 : decode cX8_init 162 = .ok (.invokespecial 62, 3) := by decide +kernel
theorem dX8_init_165 : decode cX8_init 165 = .ok (.aastore, 1) := by decide +kernel
theorem dX8_init_166 : decode cX8_init 166 = .ok (.iinc 1 1, 3) := by decide +kernel
theorem dX8_init_169 : decode cX8_init 169 = .ok (.goto (-22), 3) := by decide +kernel
theorem dX8_init_172 : decode cX8_init 172 = .ok (.return_, 1) := by decide +kernel
theorem dX9_init_0 : decode cX9_init 0 = .ok (.aload_n 0, 1) := by decide +kernel
theorem dX9_init_1 : decode cX9_init 1 = .ok (.invokespecial 1, 3) := by decide +kernel
theorem dX9_init_4 : decode cX9_init 4 = .ok (.return_, 1) := by decide +kernel
theorem dX10_init_0 : decode cX10_init 0 = .ok (.aload_n 0, 1) := by decide +kernel
theorem dX10_init_1 : decode cX10_init 1 = .ok (.invokespecial 3, 3) := by decide +kernel
theorem dX10_init_4 : decode cX10_init 4 = .ok (.aload_n 0, 1) := by decide +kernel
theorem dX10_init_5 : decode cX10_init 5 = .ok (.bipush 7, 2) := by decide +kernel
theorem dX10_init_7 : decode cX10_init 7 = .ok (.newarray .int, 2) := by decide +kernel
theorem dX10_init_9 : decode cX10_init 9 = .ok (.putfield 9, 3) := by decide +kernel
theorem dX10_init_12 : decode cX10_init 12 = .ok (.aload_n 0, 1) := by decide +kernel
theorem dX10_init_13 : decode cX10_init 13 = .ok (.bipush 64, 2) := by decide +kernel
theorem dX10_init_15 : decode cX10_init 15 = .ok (.newarray .long, 2) := by decide +kernel
theorem dX10_init_17 : decode cX10_init 17 = .ok (.putfield 15, 3) := by decide +kernel
theorem dX10_init_20 : decode cX10_init 20 = .ok (.return_, 1) := by decide +kernel
theorem dX11_init_0 : decode cX11_init 0 = .ok (.aload_n 0, 1) := by decide +kernel
theorem dX11_init_1 : decode cX11_init 1 = .ok (.invokespecial 5, 3) := by decide +kernel
theorem dX11_init_4 : decode cX11_init 4 = .ok (.aload_n 0, 1) := by decide +kernel
theorem dX11_init_5 : decode cX11_init 5 = .ok (.new 11, 3) := by decide +kernel
theorem dX11_init_8 : decode cX11_init 8 = .ok (.dup, 1) := by decide +kernel
theorem dX11_init_9 : decode cX11_init 9 = .ok (.invokespecial 13, 3) := by decide +kernel
theorem dX11_init_12 : decode cX11_init 12 = .ok (.putfield 14, 3) := by decide +kernel
theorem dX11_init_15 : decode cX11_init 15 = .ok (.aload_n 0, 1) := by decide +kernel
theorem dX11_init_16 : decode cX11_init 16 = .ok (.new 20, 3) := by decide +kernel
theorem dX11_init_19 : decode cX11_init 19 = .ok (.dup, 1) := by decide +kernel
theorem dX11_init_20 : decode cX11_init 20 = .ok (.invokespecial 22, 3) := by decide +kernel
theorem dX11_init_23 : decode cX11_init 23 = .ok (.putfield 23, 3) := by decide +kernel
theorem dX11_init_26 : decode cX11_init 26 = .ok (.aload_n 0, 1) := by decide +kernel
theorem dX11_init_27 : decode cX11_init 27 = .ok (.new 27, 3) := by decide +kernel
theorem dX11_init_30 : decode cX11_init 30 = .ok (.dup, 1) := by decide +kernel
theorem dX11_init_31 : decode cX11_init 31 = .ok (.invokespecial 29, 3) := by decide +kernel
theorem dX11_init_34 : decode cX11_init 34 = .ok (.putfield 30, 3) := by decide +kernel
theorem dX11_init_37 : decode cX11_init 37 = .ok (.aload_n 0, 1) := by decide +kernel
theorem dX11_init_38 : decode cX11_init 38 = .ok (.new 27, 3) := by decide +kernel
theorem dX11_init_41 : decode cX11_init 41 = .ok (.dup, 1) := by decide +kernel
theorem dX11_init_42 : decode cX11_init 42 = .ok (.invokespecial 29, 3) := by decide +kernel
theorem dX11_init_45 : decode cX11_init 45 = .ok (.putfield 34, 3) := by decide +kernel
theorem dX11_init_48 : decode cX11_init 48 = .ok (.aload_n 0, 1) := by decide +kernel
theorem dX11_init_49 : decode cX11_init 49 = .ok (.new 27, 3) := by decide +kernel
theorem dX11_init_52 : decode cX11_init 52 = .ok (.dup, 1) := by decide +kernel
theorem dX11_init_53 : decode cX11_init 53 = .ok (.invokespecial 29, 3) := by decide +kernel
theorem dX11_init_56 : decode cX11_init 56 = .ok (.putfield 37, 3) := by decide +kernel
theorem dX11_init_59 : decode cX11_init 59 = .ok (.aload_n 0, 1) := by decide +kernel
theorem dX11_init_60 : decode cX11_init 60 = .ok (.new 40, 3) := by decide +kernel
theorem dX11_init_63 : decode cX11_init 63 = .ok (.dup, 1) := by decide +kernel
theorem dX11_init_64 : decode cX11_init 64 = .ok (.invokespecial 42, 3) := by decide +kernel
theorem dX11_init_67 : decode cX11_init 67 = .ok (.putfield 43, 3) := by decide +kernel
theorem dX11_init_70 : decode cX11_init 70 = .ok (.aload_n 0, 1) := by decide +kernel
theorem dX11_init_71 : decode cX11_init 71 = .ok (.new 47, 3) := by decide +kernel
theorem dX11_init_74 : decode cX11_init 74 = .ok (.dup, 1) := by decide +kernel
theorem dX11_init_75 : decode cX11_init 75 = .ok (.invokespecial 49, 3) := by decide +kernel
theorem dX11_init_78 : decode cX11_init 78 = .ok (.putfield 50, 3) := by decide +kernel
theorem dX11_init_81 : decode cX11_init 81 = .ok (.aload_n 0, 1) := by decide +kernel
theorem dX11_init_82 : decode cX11_init 82 = .ok (.new 54, 3) := by decide +kernel
theorem dX11_init_85 : decode cX11_init 85 = .ok (.dup, 1) := by decide +kernel
theorem dX11_init_86 : decode cX11_init 86 = .ok (.invokespecial 56, 3) := by decide +kernel
theorem dX11_init_89 : decode cX11_init 89 = .ok (.putfield 57, 3) := by decide +kernel
theorem dX11_init_92 : decode cX11_init 92 = .ok (.aload_n 0, 1) := by decide +kernel
theorem dX11_init_93 : decode cX11_init 93 = .ok (.new 61, 3) := by decide +kernel
theorem dX11_init_96 : decode cX11_init 96 = .ok (.dup, 1) := by decide +kernel
theorem dX11_init_97 : decode cX11_init 97 = .ok (.invokespecial 63, 3) := by decide +kernel
theorem dX11_init_100 : decode cX11_init 100 = .ok (.putfield 64, 3) := by decide +kernel
theorem dX11_init_103 : decode cX11_init 103 = .ok (.return_, 1) := by decide +kernel
theorem dX12_init_0 : decode cX12_init 0 = .ok (.aload_n 0, 1) := by decide +kernel
theorem dX12_init_1 : decode cX12_init 1 = .ok (.invokespecial 1, 3) := by decide +kernel
theorem dX12_init_4 : decode cX12_init 4 = .ok (.aload_n 0, 1) := by decide +kernel
theorem dX12_init_5 : decode cX12_init 5 = .ok (.sipush 700, 3) := by decide +kernel
theorem dX12_init_8 : decode cX12_init 8 = .ok (.newarray .int, 2) := by decide +kernel
theorem dX12_init_10 : decode cX12_init 10 = .ok (.putfield 7, 3) := by decide +kernel
theorem dX12_init_13 : decode cX12_init 13 = .ok (.aload_n 0, 1) := by decide +kernel
theorem dX12_init_14 : decode cX12_init 14 = .ok (.bipush 108, 2) := by decide +kernel
theorem dX12_init_16 : decode cX12_init 16 = .ok (.newarray .int, 2) := by decide +kernel
theorem dX12_init_18 : decode cX12_init 18 = .ok (.dup, 1) := by decide +kernel
theorem dX12_init_19 : decode cX12_init 19 = .ok (.iconst 0, 1) := by decide +kernel
theorem dX12_init_20 : decode cX12_init 20 = .ok (.bipush 104, 2) := by decide +kernel
theorem dX12_init_22 : decode cX12_init 22 = .ok (.iastore, 1) := by decide +kernel
theorem dX12_init_23 : decode cX12_init 23 = .ok (.dup, 1) := by decide +kernel
theorem dX12_init_24 : decode cX12_init 24 = .ok (.iconst 1, 1) := by decide +kernel
theorem dX12_init_25 : decode cX12_init 25 = .ok (.bipush 111, 2) := by decide +kernel
theorem dX12_init_27 : decode cX12_init 27 = .ok (.iastore, 1) := by decide +kernel
theorem dX12_init_28 : decode cX12_init 28 = .ok (.dup, 1) := by decide +kernel
theorem dX12_init_29 : decode cX12_init 29 = .ok (.iconst 2, 1) := by decide +kernel
theorem dX12_init_30 : decode cX12_init 30 = .ok (.bipush 117, 2) := by decide +kernel
theorem dX12_init_32 : decode cX12_init 32 = .ok (.iastore, 1) := by decide +kernel
theorem dX12_init_33 : decode cX12_init 33 = .ok (.dup, 1) := by decide +kernel
theorem dX12_init_34 : decode cX12_init 34 = .ok (.iconst 3, 1) := by decide +kernel
theorem dX12_init_35 : decode cX12_init 35 = .ok (.bipush 115, 2) := by decide +kernel
theorem dX12_init_37 : decode cX12_init 37 = .ok (.iastore, 1) := by decide +kernel
theorem dX12_init_38 : decode cX12_init 38 = .ok (.dup, 1) := by decide +kernel
theorem dX12_init_39 : decode cX12_init 39 = .ok (.iconst 4, 1) := by decide +kernel
theorem dX12_init_40 : decode cX12_init 40 = .ok (.bipush 101, 2) := by decide +kernel
theorem dX12_init_42 : decode cX12_init 42 = .ok (.iastore, 1) := by decide +kernel
theorem dX12_init_43 : decode cX12_init 43 = .ok (.dup, 1) := by decide +kernel
theorem dX12_init_44 : decode cX12_init 44 = .ok (.iconst 5, 1) := by decide +kernel
theorem dX12_init_45 : decode cX12_init 45 = .ok (.bipush 32, 2) := by decide +kernel
theorem dX12_init_47 : decode cX12_init 47 = .ok (.iastore, 1) := by decide +kernel
theorem dX12_init_48 : decode cX12_init 48 = .ok (.dup, 1) := by decide +kernel
theorem dX12_init_49 : decode cX12_init 49 = .ok (.bipush 6, 2) := by decide +kernel
theorem dX12_init_51 : decode cX12_init 51 = .ok (.bipush 109, 2) := by decide +kernel
theorem dX12_init_53 : decode cX12_init 53 = .ok (.iastore, 1) := by decide +kernel
theorem dX12_init_54 : decode cX12_init 54 = .ok (.dup, 1) := by decide +kernel
theorem dX12_init_55 : decode cX12_init 55 = .ok (.bipush 7, 2) := by decide +kernel
theorem dX12_init_57 : decode cX12_init 57 = .ok (.bipush 97, 2) := by decide +kernel
theorem dX12_init_59 : decode cX12_init 59 = .ok (.iastore, 1) := by decide +kernel
theorem dX12_init_60 : decode cX12_init 60 = .ok (.dup, 1) := by decide +kernel
theorem dX12_init_61 : decode cX12_init 61 = .ok (.bipush 8, 2) := by decide +kernel
theorem dX12_init_63 : decode cX12_init 63 = .ok (.bipush 110, 2) := by decide +kernel
theorem dX12_init_65 : decode cX12_init 65 = .ok (.iastore, 1) := by decide +kernel
theorem dX12_init_66 : decode cX12_init 66 = .ok (.dup, 1) := by decide +kernel
theorem dX12_init_67 : decode cX12_init 67 = .ok (.bipush 9, 2) := by decide +kernel
theorem dX12_init_69 : decode cX12_init 69 = .ok (.bipush 32, 2) := by decide +kernel
theorem dX12_init_71 : decode cX12_init 71 = .ok (.iastore, 1) := by decide +kernel
theorem dX12_init_72 : decode cX12_init 72 = .ok (.dup, 1) := by decide +kernel
theorem dX12_init_73 : decode cX12_init 73 = .ok (.bipush 10, 2) := by decide +kernel
theorem dX12_init_75 : decode cX12_init 75 = .ok (.bipush 97, 2) := by decide +kernel
theorem dX12_init_77 : decode cX12_init 77 = .ok (.iastore, 1) := by decide +kernel
theorem dX12_init_78 : decode cX12_init 78 = .ok (.dup, 1) := by decide +kernel
theorem dX12_init_79 : decode cX12_init 79 = .ok (.bipush 11, 2) := by decide +kernel
theorem dX12_init_81 : decode cX12_init 81 = .ok (.bipush 100, 2) := by decide +kernel
theorem dX12_init_83 : decode cX12_init 83 = .ok (.iastore, 1) := by decide +kernel
theorem dX12_init_84 : decode cX12_init 84 = .ok (.dup, 1) := by decide +kernel
theorem dX12_init_85 : decode cX12_init 85 = .ok (.bipush 12, 2) := by decide +kernel
theorem dX12_init_87 : decode cX12_init 87 = .ok (.bipush 100, 2) := by decide +kernel
theorem dX12_init_89 : decode cX12_init 89 = .ok (.iastore, 1) := by decide +kernel
theorem dX12_init_90 : decode cX12_init 90 = .ok (.dup, 1) := by decide +kernel
theorem dX12_init_91 : decode cX12_init 91 = .ok (.bipush 13, 2) := by decide +kernel
theorem dX12_init_93 : decode cX12_init 93 = .ok (.bipush 32, 2) := by decide +kernel
theorem dX12_init_95 : decode cX12_init 95 = .ok (.iastore, 1) := by decide +kernel
theorem dX12_init_96 : decode cX12_init 96 = .ok (.dup, 1) := by decide +kernel
theorem dX12_init_97 : decode cX12_init 97 = .ok (.bipush 14, 2) := by decide +kernel
theorem dX12_init_99 : decode cX12_init 99 = .ok (.bipush 115, 2) := by decide +kernel
theorem dX12_init_101 : decode cX12_init 101 = .ok (.iastore, 1) := by decide +kernel
theorem dX12_init_102 : decode cX12_init 102 = .ok (.dup, 1) := by decide +kernel
theorem dX12_init_103 : decode cX12_init 103 = .ok (.bipush 15, 2) := by decide +kernel
theorem dX12_init_105 : decode cX12_init 105 = .ok (.bipush 108, 2) := by decide +kernel
theorem dX12_init_107 : decode cX12_init 107 = .ok (.iastore, 1) := by decide +kernel
theorem dX12_init_108 : decode cX12_init 108 = .ok (.dup, 1) := by decide +kernel
theorem dX12_init_109 : decode cX12_init 109 = .ok (.bipush 16, 2) := by decide +kernel
theorem dX12_init_111 : decode cX12_init 111 = .ok (.bipush 105, 2) := by decide +kernel
theorem dX12_init_113 : decode cX12_init 113 = .ok (.iastore, 1) := by decide +kernel
theorem dX12_init_114 : decode cX12_init 114 = .ok (.dup, 1) := by decide +kernel
theorem dX12_init_115 : decode cX12_init 115 = .ok (.bipush 17, 2) := by decide +kernel
theorem dX12_init_117 : decode cX12_init 117 = .ok (.bipush 99, 2) := by decide +kernel
theorem dX12_init_119 : decode cX12_init 119 = .ok (.iastore, 1) := by decide +kernel
theorem dX12_init_120 : decode cX12_init 120 = .ok (.dup, 1) := by decide +kernel
theorem dX12_init_121 : decode cX12_init 121 = .ok (.bipush 18, 2) := by decide +kernel
theorem dX12_init_123 : decode cX12_init 123 = .ok (.bipush 101, 2) := by decide +kernel
theorem dX12_init_125 : decode cX12_init 125 = .ok (.iastore, 1) := by decide +kernel
theorem dX12_init_126 : decode cX12_init 126 = .ok (.dup, 1) := by decide +kernel
theorem dX12_init_127 : decode cX12_init 127 = .ok (.bipush 19, 2) := by decide +kernel
theorem dX12_init_129 : decode cX12_init 129 = .ok (.bipush 32, 2) := by decide +kernel
theorem dX12_init_131 : decode cX12_init 131 = .ok (.iastore, 1) := by decide +kernel
theorem dX12_init_132 : decode cX12_init 132 = .ok (.dup, 1) := by decide +kernel
theorem dX12_init_133 : decode cX12_init 133 = .ok (.bipush 20, 2) := by decide +kernel
theorem dX12_init_135 : decode cX12_init 135 = .ok (.bipush 119, 2) := by decide +kernel
theorem dX12_init_137 : decode cX12_init 137 = .ok (.iastore, 1) := by decide +kernel
theorem dX12_init_138 : decode cX12_init 138 = .ok (.dup, 1) := by decide +kernel
theorem dX12_init_139 : decode cX12_init 139 = .ok (.bipush 21, 2) := by decide +kernel
theorem dX12_init_141 : decode cX12_init 141 = .ok (.bipush 101, 2) := by decide +kernel
theorem dX12_init_143 : decode cX12_init 143 = .ok (.iastore, 1) := by decide +kernel
theorem dX12_init_144 : decode cX12_init 144 = .ok (.dup, 1) := by decide +kernel
theorem dX12_init_145 : decode cX12_init 145 = .ok (.bipush 22, 2) := by decide +kernel
theorem dX12_init_147 : decode cX12_init 147 = .ok (.bipush 100, 2) := by decide +kernel
theorem dX12_init_149 : decode cX12_init 149 = .ok (.iastore, 1) := by decide +kernel
theorem dX12_init_150 : decode cX12_init 150 = .ok (.dup, 1) := by decide +kernel
theorem dX12_init_151 : decode cX12_init 151 = .ok (.bipush 23, 2) := by decide +kernel
theorem dX12_init_153 : decode cX12_init 153 = .ok (.bipush 32, 2) := by decide +kernel
theorem dX12_init_155 : decode cX12_init 155 = .ok (.iastore, 1) := by decide +kernel
theorem dX12_init_156 : decode cX12_init 156 = .ok (.dup, 1) := by decide +kernel
theorem dX12_init_157 : decode cX12_init 157 = .ok (.bipush 24, 2) := by decide +kernel
theorem dX12_init_159 : decode cX12_init 159 = .ok (.bipush 115, 2) := by decide +kernel
theorem dX12_init_161 : decode cX12_init 161 = .ok (.iastore, 1) := by decide +kernel
theorem dX12_init_162 : decode cX12_init 162 = .ok (.dup, 1) := by decide +kernel
theorem dX12_init_163 : decode cX12_init 163 = .ok (.bipush 25, 2) := by decide +kernel
theorem dX12_init_165 : decode cX12_init 165 = .ok (.bipush 116, 2) := by decide +kernel
theorem dX12_init_167 : decode cX12_init 167 = .ok (.iastore, 1) := by decide +kernel
theorem dX12_init_168 : decode cX12_init 168 = .ok (.dup, 1) := by decide +kernel
theorem dX12_init_169 : decode cX12_init 169 = .ok (.bipush 26, 2) := by decide +kernel
theorem dX12_init_171 : decode cX12_init 171 = .ok (.bipush 114, 2) := by decide +kernel
theorem dX12_init_173 : decode cX12_init 173 = .ok (.iastore, 1) := by decide +kernel
theorem dX12_init_174 : decode cX12_init 174 = .ok (.dup, 1) := by decide +kernel
theorem dX12_init_175 : decode cX12_init 175 = .ok (.bipush 27, 2) := by decide +kernel
theorem dX12_init_177 : decode cX12_init 177 = .ok (.bipush 105, 2) := by decide +kernel
theorem dX12_init_179 : decode cX12_init 179 = .ok (.iastore, 1) := by decide +kernel
theorem dX12_init_180 : decode cX12_init 180 = .ok (.dup, 1) := by decide +kernel
theorem dX12_init_181 : decode cX12_init 181 = .ok (.bipush 28, 2) := by decide +kernel
theorem dX12_init_183 : decode cX12_init 183 = .ok (.bipush 112, 2) := by decide +kernel
theorem dX12_init_185 : decode cX12_init 185 = .ok (.iastore, 1) := by decide +kernel
theorem dX12_init_186 : decode cX12_init 186 = .ok (.dup, 1) := by decide +kernel
theorem dX12_init_187 : decode cX12_init 187 = .ok (.bipush 29, 2) := by decide +kernel
theorem dX12_init_189 : decode cX12_init 189 = .ok (.bipush 32, 2) := by decide +kernel
theorem dX12_init_191 : decode cX12_init 191 = .ok (.iastore, 1) := by decide +kernel
theorem dX12_init_192 : decode cX12_init 192 = .ok (.dup, 1) := by decide +kernel
theorem dX12_init_193 : decode cX12_init 193 = .ok (.bipush 30, 2) := by decide +kernel
theorem dX12_init_195 : decode cX12_init 195 = .ok (.bipush 100, 2) := by decide +kernel
theorem dX12_init_197 : decode cX12_init 197 = .ok (.iastore, 1) := by decide +kernel
theorem dX12_init_198 : decode cX12_init 198 = .ok (.dup, 1) := by decide +kernel
theorem dX12_init_199 : decode cX12_init 199 = .ok (.bipush 31, 2) := by decide +kernel
theorem dX12_init_201 : decode cX12_init 201 = .ok (.bipush 97, 2) := by decide +kernel
theorem dX12_init_203 : decode cX12_init 203 = .ok (.iastore, 1) := by decide +kernel
theorem dX12_init_204 : decode cX12_init 204 = .ok (.dup, 1) := by decide +kernel
theorem dX12_init_205 : decode cX12_init 205 = .ok (.bipush 32, 2) := by decide +kernel
theorem dX12_init_207 : decode cX12_init 207 = .ok (.bipush 109, 2) := by decide +kernel
theorem dX12_init_209 : decode cX12_init 209 = .ok (.iastore, 1) := by decide +kernel
theorem dX12_init_210 : decode cX12_init 210 = .ok (.dup, 1) := by decide +kernel
theorem dX12_init_211 : decode cX12_init 211 = .ok (.bipush 33, 2) := by decide +kernel
theorem dX12_init_213 : decode cX12_init 213 = .ok (.bipush 112, 2) := by decide +kernel
theorem dX12_init_215 : decode cX12_init 215 = .ok (.iastore, 1) := by decide +kernel
theorem dX12_init_216 : decode cX12_init 216 = .ok (.dup, 1) := by decide +kernel
theorem dX12_init_217 : decode cX12_init 217 = .ok (.bipush 34, 2) := by decide +kernel
theorem dX12_init_219 : decode cX12_init 219 = .ok (.bipush 32, 2) := by decide +kernel
theorem dX12_init_221 : decode cX12_init 221 = .ok (.iastore, 1) := by decide +kernel
theorem dX12_init_222 : decode cX12_init 222 = .ok (.dup, 1) := by decide +kernel
theorem dX12_init_223 : decode cX12_init 223 = .ok (.bipush 35, 2) := by decide +kernel
theorem dX12_init_225 : decode cX12_init 225 = .ok (.bipush 115, 2) := by decide +kernel
theorem dX12_init_227 : decode cX12_init 227 = .ok (.iastore, 1) := by decide +kernel
theorem dX12_init_228 : decode cX12_init 228 = .ok (.dup, 1) := by decide +kernel
theorem dX12_init_229 : decode cX12_init 229 = .ok (.bipush 36, 2) := by decide +kernel
theorem dX12_init_231 : decode cX12_init 231 = .ok (.bipush 101, 2) := by decide +kernel
theorem dX12_init_233 : decode cX12_init 233 = .ok (.iastore, 1) := by decide +kernel
theorem dX12_init_234 : decode cX12_init 234 = .ok (.dup, 1) := by decide +kernel
theorem dX12_init_235 : decode cX12_init 235 = .ok (.bipush 37, 2) := by decide +kernel
theorem dX12_init_237 : decode cX12_init 237 = .ok (.bipush 101, 2) := by decide +kernel
theorem dX12_init_239 : decode cX12_init 239 = .ok (.iastore, 1) := by decide +kernel
theorem dX12_init_240 : decode cX12_init 240 = .ok (.dup, 1) := by decide +kernel
theorem dX12_init_241 : decode cX12_init 241 = .ok (.bipush 38, 2) := by decide +kernel
theorem dX12_init_243 : decode cX12_init 243 = .ok (.bipush 100, 2) := by decide +kernel
theorem dX12_init_245 : decode cX12_init 245 = .ok (.iastore, 1) := by decide +kernel
theorem dX12_init_246 : decode cX12_init 246 = .ok (.dup, 1) := by decide +kernel
theorem dX12_init_247 : decode cX12_init 247 = .ok (.bipush 39, 2) := by decide +kernel
theorem dX12_init_249 : decode cX12_init 249 = .ok (.bipush 32, 2) := by decide +kernel
theorem dX12_init_251 : decode cX12_init 251 = .ok (.iastore, 1) := by decide +kernel
theorem dX12_init_252 : decode cX12_init 252 = .ok (.dup, 1) := by decide +kernel
theorem dX12_init_253 : decode cX12_init 253 = .ok (.bipush 40, 2) := by decide +kernel
theorem dX12_init_255 : decode cX12_init 255 = .ok (.bipush 108, 2) := by decide +kernel
theorem dX12_init_257 : decode cX12_init 257 = .ok (.iastore, 1) := by decide +kernel
theorem dX12_init_258 : decode cX12_init 258 = .ok (.dup, 1) := by decide +kernel
theorem dX12_init_259 : decode cX12_init 259 = .ok (.bipush 41, 2) := by decide +kernel
theorem dX12_init_261 : decode cX12_init 261 = .ok (.bipush 97, 2) := by decide +kernel
theorem dX12_init_263 : decode cX12_init 263 = .ok (.iastore, 1) := by decide +kernel
theorem dX12_init_264 : decode cX12_init 264 = .ok (.dup, 1) := by decide +kernel
theorem dX12_init_265 : decode cX12_init 265 = .ok (.bipush 42, 2) := by decide +kernel
theorem dX12_init_267 : decode cX12_init 267 = .ok (.bipush 119, 2) := by decide +kernel
theorem dX12_init_269 : decode cX12_init 269 = .ok (.iastore, 1) := by decide +kernel
theorem dX12_init_270 : decode cX12_init 270 = .ok (.dup, 1) := by decide +kernel
theorem dX12_init_271 : decode cX12_init 271 = .ok (.bipush 43, 2) := by decide +kernel
theorem dX12_init_273 : decode cX12_init 273 = .ok (.bipush 32, 2) := by decide +kernel
theorem dX12_init_275 : decode cX12_init 275 = .ok (.iastore, 1) := by decide +kernel
theorem dX12_init_276 : decode cX12_init 276 = .ok (.dup, 1) := by decide +kernel
theorem dX12_init_277 : decode cX12_init 277 = .ok (.bipush 44, 2) := by decide +kernel
theorem dX12_init_279 : decode cX12_init 279 = .ok (.bipush 116, 2) := by decide +kernel
theorem dX12_init_281 : decode cX12_init 281 = .ok (.iastore, 1) := by decide +kernel
theorem dX12_init_282 : decode cX12_init 282 = .ok (.dup, 1) := by decide +kernel
theorem dX12_init_283 : decode cX12_init 283 = .ok (.bipush 45, 2) := by decide +kernel
theorem dX12_init_285 : decode cX12_init 285 = .ok (.bipush 104, 2) := by decide +kernel
theorem dX12_init_287 : decode cX12_init 287 = .ok (.iastore, 1) := by decide +kernel
theorem dX12_init_288 : decode cX12_init 288 = .ok (.dup, 1) := by decide +kernel
theorem dX12_init_289 : decode cX12_init 289 = .ok (.bipush 46, 2) := by decide +kernel
theorem dX12_init_291 : decode cX12_init 291 = .ok (.bipush 105, 2) := by decide +kernel
theorem dX12_init_293 : decode cX12_init 293 = .ok (.iastore, 1) := by decide +kernel
theorem dX12_init_294 : decode cX12_init 294 = .ok (.dup, 1) := by decide +kernel
theorem dX12_init_295 : decode cX12_init 295 = .ok (.bipush 47, 2) := by decide +kernel
theorem dX12_init_297 : decode cX12_init 297 = .ok (.bipush 99, 2) := by decide +kernel
theorem dX12_init_299 : decode cX12_init 299 = .ok (.iastore, 1) := by decide +kernel
theorem dX12_init_300 : decode cX12_init 300 = .ok (.dup, 1) := by decide +kernel
theorem dX12_init_301 : decode cX12_init 301 = .ok (.bipush 48, 2) := by decide +kernel
theorem dX12_init_303 : decode cX12_init 303 = .ok (.bipush 107, 2) := by decide +kernel
theorem dX12_init_305 : decode cX12_init 305 = .ok (.iastore, 1) := by decide +kernel
theorem dX12_init_306 : decode cX12_init 306 = .ok (.dup, 1) := by decide +kernel
theorem dX12_init_307 : decode cX12_init 307 = .ok (.bipush 49, 2) := by decide +kernel
theorem dX12_init_309 : decode cX12_init 309 = .ok (.bipush 32, 2) := by decide +kernel
theorem dX12_init_311 : decode cX12_init 311 = .ok (.iastore, 1) := by decide +kernel
theorem dX12_init_312 : decode cX12_init 312 = .ok (.dup, 1) := by decide +kernel
theorem dX12_init_313 : decode cX12_init 313 = .ok (.bipush 50, 2) := by decide +kernel
theorem dX12_init_315 : decode cX12_init 315 = .ok (.bipush 98, 2) := by decide +kernel
theorem dX12_init_317 : decode cX12_init 317 = .ok (.iastore, 1) := by decide +kernel
theorem dX12_init_318 : decode cX12_init 318 = .ok (.dup, 1) := by decide +kernel
theorem dX12_init_319 : decode cX12_init 319 = .ok (.bipush 51, 2) := by decide +kernel
theorem dX12_init_321 : decode cX12_init 321 = .ok (.bipush 101, 2) := by decide +kernel
theorem dX12_init_323 : decode cX12_init 323 = .ok (.iastore, 1) := by decide +kernel
theorem dX12_init_324 : decode cX12_init 324 = .ok (.dup, 1) := by decide +kernel
theorem dX12_init_325 : decode cX12_init 325 = .ok (.bipush 52, 2) := by decide +kernel
theorem dX12_init_327 : decode cX12_init 327 = .ok (.bipush 97, 2) := by decide +kernel
theorem dX12_init_329 : decode cX12_init 329 = .ok (.iastore, 1) := by decide +kernel
theorem dX12_init_330 : decode cX12_init 330 = .ok (.dup, 1) := by decide +kernel
theorem dX12_init_331 : decode cX12_init 331 = .ok (.bipush 53, 2) := by decide +kernel
theorem dX12_init_333 : decode cX12_init 333 = .ok (.bipush 114, 2) := by decide +kernel
theorem dX12_init_335 : decode cX12_init 335 = .ok (.iastore, 1) := by decide +kernel
theorem dX12_init_336 : decode cX12_init 336 = .ok (.dup, 1) := by decide +kernel
theorem dX12_init_337 : decode cX12_init 337 = .ok (.bipush 54, 2) := by decide +kernel
theorem dX12_init_339 : decode cX12_init 339 = .ok (.bipush 32, 2) := by decide +kernel
theorem dX12_init_341 : decode cX12_init 341 = .ok (.iastore, 1) := by decide +kernel
theorem dX12_init_342 : decode cX12_init 342 = .ok (.dup, 1) := by decide +kernel
theorem dX12_init_343 : decode cX12_init 343 = .ok (.bipush 55, 2) := by decide +kernel
theorem dX12_init_345 : decode cX12_init 345 = .ok (.bipush 99, 2) := by decide +kernel
theorem dX12_init_347 : decode cX12_init 347 = .ok (.iastore, 1) := by decide +kernel
theorem dX12_init_348 : decode cX12_init 348 = .ok (.dup, 1) := by decide +kernel
theorem dX12_init_349 : decode cX12_init 349 = .ok (.bipush 56, 2) := by decide +kernel
theorem dX12_init_351 : decode cX12_init 351 = .ok (.bipush 111, 2) := by decide +kernel
theorem dX12_init_353 : decode cX12_init 353 = .ok (.iastore, 1) := by decide +kernel
theorem dX12_init_354 : decode cX12_init 354 = .ok (.dup, 1) := by decide +kernel
theorem dX12_init_355 : decode cX12_init 355 = .ok (.bipush 57, 2) := by decide +kernel
theorem dX12_init_357 : decode cX12_init 357 = .ok (.bipush 114, 2) := by decide +kernel
theorem dX12_init_359 : decode cX12_init 359 = .ok (.iastore, 1) := by decide +kernel
theorem dX12_init_360 : decode cX12_init 360 = .ok (.dup, 1) := by decide +kernel
theorem dX12_init_361 : decode cX12_init 361 = .ok (.bipush 58, 2) := by decide +kernel
theorem dX12_init_363 : decode cX12_init 363 = .ok (.bipush 110, 2) := by decide +kernel
theorem dX12_init_365 : decode cX12_init 365 = .ok (.iastore, 1) := by decide +kernel
theorem dX12_init_366 : decode cX12_init 366 = .ok (.dup, 1) := by decide +kernel
theorem dX12_init_367 : decode cX12_init 367 = .ok (.bipush 59, 2) := by decide +kernel
theorem dX12_init_369 : decode cX12_init 369 = .ok (.bipush 32, 2) := by decide +kernel
theorem dX12_init_371 : decode cX12_init 371 = .ok (.iastore, 1) := by decide +kernel
theorem dX12_init_372 : decode cX12_init 372 = .ok (.dup, 1) := by decide +kernel
theorem dX12_init_373 : decode cX12_init 373 = .ok (.bipush 60, 2) := by decide +kernel
theorem dX12_init_375 : decode cX12_init 375 = .ok (.bipush 97, 2) := by decide +kernel
theorem dX12_init_377 : decode cX12_init 377 = .ok (.iastore, 1) := by decide +kernel
theorem dX12_init_378 : decode cX12_init 378 = .ok (.dup, 1) := by decide +kernel
theorem dX12_init_379 : decode cX12_init 379 = .ok (.bipush 61, 2) := by decide +kernel
theorem dX12_init_381 : decode cX12_init 381 = .ok (.bipush 110, 2) := by decide +kernel
theorem dX12_init_383 : decode cX12_init 383 = .ok (.iastore, 1) := by decide +kernel
theorem dX12_init_384 : decode cX12_init 384 = .ok (.dup, 1) := by decide +kernel
theorem dX12_init_385 : decode cX12_init 385 = .ok (.bipush 62, 2) := by decide +kernel
theorem dX12_init_387 : decode cX12_init 387 = .ok (.bipush 100, 2) := by decide +kernel
theorem dX12_init_389 : decode cX12_init 389 = .ok (.iastore, 1) := by decide +kernel
theorem dX12_init_390 : decode cX12_init 390 = .ok (.dup, 1) := by decide +kernel
theorem dX12_init_391 : decode cX12_init 391 = .ok (.bipush 63, 2) := by decide +kernel
theorem dX12_init_393 : decode cX12_init 393 = .ok (.bipush 32, 2) := by decide +kernel
theorem dX12_init_395 : decode cX12_init 395 = .ok (.iastore, 1) := by decide +kernel
theorem dX12_init_396 : decode cX12_init 396 = .ok (.dup, 1) := by decide +kernel
theorem dX12_init_397 : decode cX12_init 397 = .ok (.bipush 64, 2) := by decide +kernel
theorem dX12_init_399 : decode cX12_init 399 = .ok (.bipush 111, 2) := by decide +kernel
theorem dX12_init_401 : decode cX12_init 401 = .ok (.iastore, 1) := by decide +kernel
theorem dX12_init_402 : decode cX12_init 402 = .ok (.dup, 1) := by decide +kernel
theorem dX12_init_403 : decode cX12_init 403 = .ok (.bipush 65, 2) := by decide +kernel
theorem dX12_init_405 : decode cX12_init 405 = .ok (.bipush 114, 2) := by decide +kernel
theorem dX12_init_407 : decode cX12_init 407 = .ok (.iastore, 1) := by decide +kernel
theorem dX12_init_408 : decode cX12_init 408 = .ok (.dup, 1) := by decide +kernel
theorem dX12_init_409 : decode cX12_init 409 = .ok (.bipush 66, 2) := by decide +kernel
theorem dX12_init_411 : decode cX12_init 411 = .ok (.bipush 32, 2) := by decide +kernel
theorem dX12_init_413 : decode cX12_init 413 = .ok (.iastore, 1) := by decide +kernel
theorem dX12_init_414 : decode cX12_init 414 = .ok (.dup, 1) := by decide +kernel
theorem dX12_init_415 : decode cX12_init 415 = .ok (.bipush 67, 2) := by decide +kernel
theorem dX12_init_417 : decode cX12_init 417 = .ok (.bipush 110, 2) := by decide +kernel
theorem dX12_init_419 : decode cX12_init 419 = .ok (.iastore, 1) := by decide +kernel
theorem dX12_init_420 : decode cX12_init 420 = .ok (.dup, 1) := by decide +kernel
theorem dX12_init_421 : decode cX12_init 421 = .ok (.bipush 68, 2) := by decide +kernel
theorem dX12_init_423 : decode cX12_init 423 = .ok (.bipush 111, 2) := by decide +kernel
theorem dX12_init_425 : decode cX12_init 425 = .ok (.iastore, 1) := by decide +kernel
theorem dX12_init_426 : decode cX12_init 426 = .ok (.dup, 1) := by decide +kernel
theorem dX12_init_427 : decode cX12_init 427 = .ok (.bipush 69, 2) := by decide +kernel
theorem dX12_init_429 : decode cX12_init 429 = .ok (.bipush 116, 2) := by decide +kernel
theorem dX12_init_431 : decode cX12_init 431 = .ok (.iastore, 1) := by decide +kernel
theorem dX12_init_432 : decode cX12_init 432 = .ok (.dup, 1) := by decide +kernel
theorem dX12_init_433 : decode cX12_init 433 = .ok (.bipush 70, 2) := by decide +kernel
theorem dX12_init_435 : decode cX12_init 435 = .ok (.bipush 32, 2) := by decide +kernel
theorem dX12_init_437 : decode cX12_init 437 = .ok (.iastore, 1) := by decide +kernel
theorem dX12_init_438 : decode cX12_init 438 = .ok (.dup, 1) := by decide +kernel
theorem dX12_init_439 : decode cX12_init 439 = .ok (.bipush 71, 2) := by decide +kernel
theorem dX12_init_441 : decode cX12_init 441 = .ok (.bipush 98, 2) := by decide +kernel
theorem dX12_init_443 : decode cX12_init 443 = .ok (.iastore, 1) := by decide +kernel
theorem dX12_init_444 : decode cX12_init 444 = .ok (.dup, 1) := by decide +kernel
theorem dX12_init_445 : decode cX12_init 445 = .ok (.bipush 72, 2) := by decide +kernel
theorem dX12_init_447 : decode cX12_init 447 = .ok (.bipush 121, 2) := by decide +kernel
theorem dX12_init_449 : decode cX12_init 449 = .ok (.iastore, 1) := by decide +kernel
theorem dX12_init_450 : decode cX12_init 450 = .ok (.dup, 1) := by decide +kernel
theorem dX12_init_451 : decode cX12_init 451 = .ok (.bipush 73, 2) := by decide +kernel
theorem dX12_init_453 : decode cX12_init 453 = .ok (.bipush 32, 2) := by decide +kernel
theorem dX12_init_455 : decode cX12_init 455 = .ok (.iastore, 1) := by decide +kernel
theorem dX12_init_456 : decode cX12_init 456 = .ok (.dup, 1) := by decide +kernel
theorem dX12_init_457 : decode cX12_init 457 = .ok (.bipush 74, 2) := by decide +kernel
theorem dX12_init_459 : decode cX12_init 459 = .ok (.bipush 122, 2) := by decide +kernel
theorem dX12_init_461 : decode cX12_init 461 = .ok (.iastore, 1) := by decide +kernel
theorem dX12_init_462 : decode cX12_init 462 = .ok (.dup, 1) := by decide +kernel
theorem dX12_init_463 : decode cX12_init 463 = .ok (.bipush 75, 2) := by decide +kernel
theorem dX12_init_465 : decode cX12_init 465 = .ok (.bipush 111, 2) := by decide +kernel
theorem dX12_init_467 : decode cX12_init 467 = .ok (.iastore, 1) := by decide +kernel
theorem dX12_init_468 : decode cX12_init 468 = .ok (.dup, 1) := by decide +kernel
theorem dX12_init_469 : decode cX12_init 469 = .ok (.bipush 76, 2) := by decide +kernel
theorem dX12_init_471 : decode cX12_init 471 = .ok (.bipush 110, 2) := by decide +kernel
theorem dX12_init_473 : decode cX12_init 473 = .ok (.iastore, 1) := by decide +kernel
theorem dX12_init_474 : decode cX12_init 474 = .ok (.dup, 1) := by decide +kernel
theorem dX12_init_475 : decode cX12_init 475 = .ok (.bipush 77, 2) := by decide +kernel
theorem dX12_init_477 : decode cX12_init 477 = .ok (.bipush 101, 2) := by decide +kernel
theorem dX12_init_479 : decode cX12_init 479 = .ok (.iastore, 1) := by decide +kernel
theorem dX12_init_480 : decode cX12_init 480 = .ok (.dup, 1) := by decide +kernel
theorem dX12_init_481 : decode cX12_init 481 = .ok (.bipush 78, 2) := by decide +kernel
theorem dX12_init_483 : decode cX12_init 483 = .ok (.bipush 32, 2) := by decide +kernel
theorem dX12_init_485 : decode cX12_init 485 = .ok (.iastore, 1) := by decide +kernel
theorem dX12_init_486 : decode cX12_init 486 = .ok (.dup, 1) := by decide +kernel
theorem dX12_init_487 : decode cX12_init 487 = .ok (.bipush 79, 2) := by decide +kernel
theorem dX12_init_489 : decode cX12_init 489 = .ok (.bipush 109, 2) := by decide +kernel
theorem dX12_init_491 : decode cX12_init 491 = .ok (.iastore, 1) := by decide +kernel
theorem dX12_init_492 : decode cX12_init 492 = .ok (.dup, 1) := by decide +kernel
theorem dX12_init_493 : decode cX12_init 493 = .ok (.bipush 80, 2) := by decide +kernel
theorem dX12_init_495 : decode cX12_init 495 = .ok (.bipush 117, 2) := by decide +kernel
theorem dX12_init_497 : decode cX12_init 497 = .ok (.iastore, 1) := by decide +kernel
theorem dX12_init_498 : decode cX12_init 498 = .ok (.dup, 1) := by decide +kernel
theorem dX12_init_499 : decode cX12_init 499 = .ok (.bipush 81, 2) := by decide +kernel
theorem dX12_init_501 : decode cX12_init 501 = .ok (.bipush 99, 2) := by decide +kernel
theorem dX12_init_503 : decode cX12_init 503 = .ok (.iastore, 1) := by decide +kernel
theorem dX12_init_504 : decode cX12_init 504 = .ok (.dup, 1) := by decide +kernel
theorem dX12_init_505 : decode cX12_init 505 = .ok (.bipush 82, 2) := by decide +kernel
theorem dX12_init_507 : decode cX12_init 507 = .ok (.bipush 104, 2) := by decide +kernel
theorem dX12_init_509 : decode cX12_init 509 = .ok (.iastore, 1) := by decide +kernel
theorem dX12_init_510 : decode cX12_init 510 = .ok (.dup, 1) := by decide +kernel
theorem dX12_init_511 : decode cX12_init 511 = .ok (.bipush 83, 2) := by decide +kernel
theorem dX12_init_513 : decode cX12_init 513 = .ok (.bipush 32, 2) := by decide +kernel
theorem dX12_init_515 : decode cX12_init 515 = .ok (.iastore, 1) := by decide +kernel
theorem dX12_init_516 : decode cX12_init 516 = .ok (.dup, 1) := by decide +kernel
theorem dX12_init_517 : decode cX12_init 517 = .ok (.bipush 84, 2) := by decide +kernel
theorem dX12_init_519 : decode cX12_init 519 = .ok (.bipush 112, 2) := by decide +kernel
theorem dX12_init_521 : decode cX12_init 521 = .ok (.iastore, 1) := by decide +kernel
theorem dX12_init_522 : decode cX12_init 522 = .ok (.dup, 1) := by decide +kernel
theorem dX12_init_523 : decode cX12_init 523 = .ok (.bipush 85, 2) := by decide +kernel
theorem dX12_init_525 : decode cX12_init 525 = .ok (.bipush 105, 2) := by decide +kernel
theorem dX12_init_527 : decode cX12_init 527 = .ok (.iastore, 1) := by decide +kernel
theorem dX12_init_528 : decode cX12_init 528 = .ok (.dup, 1) := by decide +kernel
theorem dX12_init_529 : decode cX12_init 529 = .ok (.bipush 86, 2) := by decide +kernel
theorem dX12_init_531 : decode cX12_init 531 = .ok (.bipush 110, 2) := by decide +kernel
theorem dX12_init_533 : decode cX12_init 533 = .ok (.iastore, 1) := by decide +kernel
theorem dX12_init_534 : decode cX12_init 534 = .ok (.dup, 1) := by decide +kernel
theorem dX12_init_535 : decode cX12_init 535 = .ok (.bipush 87, 2) := by decide +kernel
theorem dX12_init_537 : decode cX12_init 537 = .ok (.bipush 99, 2) := by decide +kernel
theorem dX12_init_539 : decode cX12_init 539 = .ok (.iastore, 1) := by decide +kernel
theorem dX12_init_540 : decode cX12_init 540 = .ok (.dup, 1) := by decide +kernel
theorem dX12_init_541 : decode cX12_init 541 = .ok (.bipush 88, 2) := by decide +kernel
theorem dX12_init_543 : decode cX12_init 543 = .ok (.bipush 104, 2) := by decide +kernel
theorem dX12_init_545 : decode cX12_init 545 = .ok (.iastore, 1) := by decide +kernel
theorem dX12_init_546 : decode cX12_init 546 = .ok (.dup, 1) := by decide +kernel
theorem dX12_init_547 : decode cX12_init 547 = .ok (.bipush 89, 2) := by decide +kernel
theorem dX12_init_549 : decode cX12_init 549 = .ok (.bipush 32, 2) := by decide +kernel
theorem dX12_init_551 : decode cX12_init 551 = .ok (.iastore, 1) := by decide +kernel
theorem dX12_init_552 : decode cX12_init 552 = .ok (.dup, 1) := by decide +kernel
theorem dX12_init_553 : decode cX12_init 553 = .ok (.bipush 90, 2) := by decide +kernel
theorem dX12_init_555 : decode cX12_init 555 = .ok (.bipush 99, 2) := by decide +kernel
theorem dX12_init_557 : decode cX12_init 557 = .ok (.iastore, 1) := by decide +kernel
theorem dX12_init_558 : decode cX12_init 558 = .ok (.dup, 1) := by decide +kernel
theorem dX12_init_559 : decode cX12_init 559 = .ok (.bipush 91, 2) := by decide +kernel
theorem dX12_init_561 : decode cX12_init 561 = .ok (.bipush 111, 2) := by decide +kernel
theorem dX12_init_563 : decode cX12_init 563 = .ok (.iastore, 1) := by decide +kernel
theorem dX12_init_564 : decode cX12_init 564 = .ok (.dup, 1) := by decide +kernel
theorem dX12_init_565 : decode cX12_init 565 = .ok (.bipush 92, 2) := by decide +kernel
theorem dX12_init_567 : decode cX12_init 567 = .ok (.bipush 114, 2) := by decide +kernel
theorem dX12_init_569 : decode cX12_init 569 = .ok (.iastore, 1) := by decide +kernel
theorem dX12_init_570 : decode cX12_init 570 = .ok (.dup, 1) := by decide +kernel
theorem dX12_init_571 : decode cX12_init 571 = .ok (.bipush 93, 2) := by decide +kernel
theorem dX12_init_573 : decode cX12_init 573 = .ok (.bipush 110, 2) := by decide +kernel
theorem dX12_init_575 : decode cX12_init 575 = .ok (.iastore, 1) := by decide +kernel
theorem dX12_init_576 : decode cX12_init 576 = .ok (.dup, 1) := by decide +kernel
theorem dX12_init_577 : decode cX12_init 577 = .ok (.bipush 94, 2) := by decide +kernel
theorem dX12_init_579 : decode cX12_init 579 = .ok (.bipush 115, 2) := by decide +kernel
theorem dX12_init_581 : decode cX12_init 581 = .ok (.iastore, 1) := by decide +kernel
theorem dX12_init_582 : decode cX12_init 582 = .ok (.dup, 1) := by decide +kernel
theorem dX12_init_583 : decode cX12_init 583 = .ok (.bipush 95, 2) := by decide +kernel
theorem dX12_init_585 : decode cX12_init 585 = .ok (.bipush 32, 2) := by decide +kernel
theorem dX12_init_587 : decode cX12_init 587 = .ok (.iastore, 1) := by decide +kernel
theorem dX12_init_588 : decode cX12_init 588 = .ok (.dup, 1) := by decide +kernel
theorem dX12_init_589 : decode cX12_init 589 = .ok (.bipush 96, 2) := by decide +kernel
theorem dX12_init_591 : decode cX12_init 591 = .ok (.bipush 108, 2) := by decide +kernel
theorem dX12_init_593 : decode cX12_init 593 = .ok (.iastore, 1) := by decide +kernel
theorem dX12_init_594 : decode cX12_init 594 = .ok (.dup, 1) := by decide +kernel
theorem dX12_init_595 : decode cX12_init 595 = .ok (.bipush 97, 2) := by decide +kernel
theorem dX12_init_597 : decode cX12_init 597 = .ok (.bipush 97, 2) := by decide +kernel
theorem dX12_init_599 : decode cX12_init 599 = .ok (.iastore, 1) := by decide +kernel
theorem dX12_init_600 : decode cX12_init 600 = .ok (.dup, 1) := by decide +kernel
theorem dX12_init_601 : decode cX12_init 601 = .ok (.bipush 98, 2) := by decide +kernel
theorem dX12_init_603 : decode cX12_init 603 = .ok (.bipush 121, 2) := by decide +kernel
theorem dX12_init_605 : decode cX12_init 605 = .ok (.iastore, 1) := by decide +kernel
theorem dX12_init_606 : decode cX12_init 606 = .ok (.dup, 1) := by decide +kernel
theorem dX12_init_607 : decode cX12_init 607 = .ok (.bipush 99, 2) := by decide +kernel
theorem dX12_init_609 : decode cX12_init 609 = .ok (.bipush 101, 2) := by decide +kernel
theorem dX12_init_611 : decode cX12_init 611 = .ok (.iastore, 1) := by decide +kernel
theorem dX12_init_612 : decode cX12_init 612 = .ok (.dup, 1) := by decide +kernel
theorem dX12_init_613 : decode cX12_init 613 = .ok (.bipush 100, 2) := by decide +kernel
theorem dX12_init_615 : decode cX12_init 615 = .ok (.bipush 114, 2) := by decide +kernel
theorem dX12_init_617 : decode cX12_init 617 = .ok (.iastore, 1) := by decide +kernel
theorem dX12_init_618 : decode cX12_init 618 = .ok (.dup, 1) := by decide +kernel
theorem dX12_init_619 : decode cX12_init 619 = .ok (.bipush 101, 2) := by decide +kernel
theorem dX12_init_621 : decode cX12_init 621 = .ok (.bipush 115, 2) := by decide +kernel
theorem dX12_init_623 : decode cX12_init 623 = .ok (.iastore, 1) := by decide +kernel
theorem dX12_init_624 : decode cX12_init 624 = .ok (.dup, 1) := by decide +kernel
theorem dX12_init_625 : decode cX12_init 625 = .ok (.bipush 102, 2) := by decide +kernel
theorem dX12_init_627 : decode cX12_init 627 = .ok (.bipush 32, 2) := by decide +kernel
theorem dX12_init_629 : decode cX12_init 629 = .ok (.iastore, 1) := by decide +kernel
theorem dX12_init_630 : decode cX12_init 630 = .ok (.dup, 1) := by decide +kernel
theorem dX12_init_631 : decode cX12_init 631 = .ok (.bipush 103, 2) := by decide +kernel
theorem dX12_init_633 : decode cX12_init 633 = .ok (.bipush 121, 2) := by decide +kernel
theorem dX12_init_635 : decode cX12_init 635 = .ok (.iastore, 1) := by decide +kernel
theorem dX12_init_636 : decode cX12_init 636 = .ok (.dup, 1) := by decide +kernel
theorem dX12_init_637 : decode cX12_init 637 = .ok (.bipush 104, 2) := by decide +kernel
theorem dX12_init_639 : decode cX12_init 639 = .ok (.bipush 101, 2) := by decide +kernel
theorem dX12_init_641 : decode cX12_init 641 = .ok (.iastore, 1) := by decide +kernel
theorem dX12_init_642 : decode cX12_init 642 = .ok (.dup, 1) := by decide +kernel
theorem dX12_init_643 : decode cX12_init 643 = .ok (.bipush 105, 2) := by decide +kernel
theorem dX12_init_645 : decode cX12_init 645 = .ok (.bipush 97, 2) := by decide +kernel
theorem dX12_init_647 : decode cX12_init 647 = .ok (.iastore, 1) := by decide +kernel
theorem dX12_init_648 : decode cX12_init 648 = .ok (.dup, 1) := by decide +kernel
theorem dX12_init_649 : decode cX12_init 649 = .ok (.bipush 106, 2) := by decide +kernel
theorem dX12_init_651 : decode cX12_init 651 = .ok (.bipush 114, 2) := by decide +kernel
theorem dX12_init_653 : decode cX12_init 653 = .ok (.iastore, 1) := by decide +kernel
theorem dX12_init_654 : decode cX12_init 654 = .ok (.dup, 1) := by decide +kernel
theorem dX12_init_655 : decode cX12_init 655 = .ok (.bipush 107, 2) := by decide +kernel
theorem dX12_init_657 : decode cX12_init 657 = .ok (.bipush 32, 2) := by decide +kernel
theorem dX12_init_659 : decode cX12_init 659 = .ok (.iastore, 1) := by decide +kernel
theorem dX12_init_660 : decode cX12_init 660 = .ok (.putfield 13, 3) := by decide +kernel
theorem dX12_init_663 : decode cX12_init 663 = .ok (.aload_n 0, 1) := by decide +kernel
theorem dX12_init_664 : decode cX12_init 664 = .ok (.iconst (-1), 1) := by decide +kernel
theorem dX12_init_665 : decode cX12_init 665 = .ok (.putfield 16, 3) := by decide +kernel
theorem dX12_init_668 : decode cX12_init 668 = .ok (.aload_n 0, 1) := by decide +kernel
theorem dX12_init_669 : decode cX12_init 669 = .ok (.iconst 2, 1) := by decide +kernel
theorem dX12_init_670 : decode cX12_init 670 = .ok (.newarray .boolean, 2) := by decide +kernel
theorem dX12_init_672 : decode cX12_init 672 = .ok (.putfield 20, 3) := by decide +kernel
theorem dX12_init_675 : decode cX12_init 675 = .ok (.aload_n 0, 1) := by decide +kernel
theorem dX12_init_676 : decode cX12_init 676 = .ok (.iconst 4, 1) := by decide +kernel
theorem dX12_init_677 : decode cX12_init 677 = .ok (.newarray .int, 2) := by decide +kernel
theorem dX12_init_679 : decode cX12_init 679 = .ok (.putfield 24, 3) := by decide +kernel
theorem dX12_init_682 : decode cX12_init 682 = .ok (.aload_n 0, 1) := by decide +kernel
theorem dX12_init_683 : decode cX12_init 683 = .ok (.bipush 12, 2) := by decide +kernel
theorem dX12_init_685 : decode cX12_init 685 = .ok (.newarray .int, 2) := by decide +kernel
theorem dX12_init_687 : decode cX12_init 687 = .ok (.putfield 27, 3) := by decide +kernel
theorem dX12_init_690 : decode cX12_init 690 = .ok (.aload_n 0, 1) := by decide +kernel
theorem dX12_init_691 : decode cX12_init 691 = .ok (.bipush 12, 2) := by decide +kernel
theorem dX12_init_693 : decode cX12_init 693 = .ok (.newarray .int, 2) := by decide +kernel
theorem dX12_init_695 : decode cX12_init 695 = .ok (.putfield 30, 3) := by decide +kernel
theorem dX12_init_698 : decode cX12_init 698 = .ok (.aload_n 0, 1) := by decide +kernel
theorem dX12_init_699 : decode cX12_init 699 = .ok (.bipush 16, 2) := by decide +kernel
theorem dX12_init_701 : decode cX12_init 701 = .ok (.newarray .int, 2) := by decide +kernel
theorem dX12_init_703 : decode cX12_init 703 = .ok (.putfield 33, 3) := by decide +kernel
theorem dX12_init_706 : decode cX12_init 706 = .ok (.aload_n 0, 1) := by decide +kernel
theorem dX12_init_707 : decode cX12_init 707 = .ok (.bipush 16, 2) := by decide +kernel
theorem dX12_init_709 : decode cX12_init 709 = .ok (.newarray .int, 2) := by decide +kernel
theorem dX12_init_711 : decode cX12_init 711 = .ok (.putfield 36, 3) := by decide +kernel
theorem dX12_init_714 : decode cX12_init 714 = .ok (.aload_n 0, 1) := by decide +kernel
theorem dX12_init_715 : decode cX12_init 715 = .ok (.bipush 16, 2) := by decide +kernel
theorem dX12_init_717 : decode cX12_init 717 = .ok (.newarray .int, 2) := by decide +kernel
theorem dX12_init_719 : decode cX12_init 719 = .ok (.putfield 39, 3) := by decide +kernel
theorem dX12_init_722 : decode cX12_init 722 = .ok (.aload_n 0, 1) := by decide +kernel
theorem dX12_init_723 : decode cX12_init 723 = .ok (.bipush 16, 2) := by decide +kernel
theorem dX12_init_725 : decode cX12_init 725 = .ok (.newarray .int, 2) := by decide +kernel
theorem dX12_init_727 : decode cX12_init 727 = .ok (.putfield 42, 3) := by decide +kernel
theorem dX12_init_730 : decode cX12_init 730 = .ok (.aload_n 0, 1) := by decide +kernel
theorem dX12_init_731 : decode cX12_init 731 = .ok (.bipush 16, 2) := by decide +kernel
theorem dX12_init_733 : decode cX12_init 733 = .ok (.newarray .int, 2) := by decide +kernel
theorem dX12_init_735 : decode cX12_init 735 = .ok (.putfield 45, 3) := by decide +kernel
theorem dX12_init_738 : decode cX12_init 738 = .ok (.aload_n 0, 1) := by decide +kernel
theorem dX12_init_739 : decode cX12_init 739 = .ok (.bipush 28, 2) := by decide +kernel
theorem dX12_init_741 : decode cX12_init 741 = .ok (.newarray .int, 2) := by decide +kernel
theorem dX12_init_743 : decode cX12_init 743 = .ok (.putfield 48, 3) := by decide +kernel
theorem dX12_init_746 : decode cX12_init 746 = .ok (.aload_n 0, 1) := by decide +kernel
theorem dX12_init_747 : decode cX12_init 747 = .ok (.bipush 28, 2) := by decide +kernel
theorem dX12_init_749 : decode cX12_init 749 = .ok (.newarray .int, 2) := by decide +kernel
theorem dX12_init_751 : decode cX12_init 751 = .ok (.putfield 51, 3) := by decide +kernel
theorem dX12_init_754 : decode cX12_init 754 = .ok (.aload_n 0, 1) := by decide +kernel
theorem dX12_init_755 : decode cX12_init 755 = .ok (.bipush 28, 2) := by decide +kernel
theorem dX12_init_757 : decode cX12_init 757 = .ok (.newarray .int, 2) := by decide +kernel
theorem dX12_init_759 : decode cX12_init 759 = .ok (.putfield 54, 3) := by decide +kernel
theorem dX12_init_762 : decode cX12_init 762 = .ok (.aload_n 0, 1) := by decide +kernel
theorem dX12_init_763 : decode cX12_init 763 = .ok (.bipush 28, 2) := by decide +kernel
theorem dX12_init_765 : decode cX12_init 765 = .ok (.newarray .int, 2) := by decide +kernel
theorem dX12_init_767 : decode cX12_init 767 = .ok (.putfield 57, 3) := by decide +kernel
theorem dX12_init_770 : decode cX12_init 770 = .ok (.aload_n 0, 1) := by decide +kernel
theorem dX12_init_771 : decode cX12_init 771 = .ok (.bipush 28, 2) := by decide +kernel
theorem dX12_init_773 : decode cX12_init 773 = .ok (.newarray .int, 2) := by decide +kernel
theorem dX12_init_775 : decode cX12_init 775 = .ok (.putfield 60, 3) := by decide +kernel
theorem dX12_init_778 : decode cX12_init 778 = .ok (.aload_n 0, 1) := by decide +kernel
theorem dX12_init_779 : decode cX12_init 779 = .ok (.bipush 12, 2) := by decide +kernel
theorem dX12_init_781 : decode cX12_init 781 = .ok (.newarray .int, 2) := by decide +kernel
theorem dX12_init_783 : decode cX12_init 783 = .ok (.putfield 63, 3) := by decide +kernel
theorem dX12_init_786 : decode cX12_init 786 = .ok (.aload_n 0, 1) := by decide +kernel
theorem dX12_init_787 : decode cX12_init 787 = .ok (.bipush 12, 2) := by decide +kernel
theorem dX12_init_789 : decode cX12_init 789 = .ok (.newarray .int, 2) := by decide +kernel
theorem dX12_init_791 : decode cX12_init 791 = .ok (.putfield 66, 3) := by decide +kernel
theorem dX12_init_794 : decode cX12_init 794 = .ok (.aload_n 0, 1) := by decide +kernel
theorem dX12_init_795 : decode cX12_init 795 = .ok (.bipush 12, 2) := by decide +kernel
theorem dX12_init_797 : decode cX12_init 797 = .ok (.newarray .int, 2) := by decide +kernel
theorem dX12_init_799 : decode cX12_init 799 = .ok (.putfield 69, 3) := by decide +kernel
theorem dX12_init_802 : decode cX12_init 802 = .ok (.aload_n 0, 1) := by decide +kernel
theorem dX12_init_803 : decode cX12_init 803 = .ok (.bipush 8, 2) := by decide +kernel
theorem dX12_init_805 : decode cX12_init 805 = .ok (.newarray .int, 2) := by decide +kernel
theorem dX12_init_807 : decode cX12_init 807 = .ok (.putfield 72, 3) := by decide +kernel
theorem dX12_init_810 : decode cX12_init 810 = .ok (.aload_n 0, 1) := by decide +kernel
theorem dX12_init_811 : decode cX12_init 811 = .ok (.bipush 6, 2) := by decide +kernel
theorem dX12_init_813 : decode cX12_init 813 = .ok (.newarray .boolean, 2) := by decide +kernel
theorem dX12_init_815 : decode cX12_init 815 = .ok (.putfield 75, 3) := by decide +kernel
theorem dX12_init_818 : decode cX12_init 818 = .ok (.aload_n 0, 1) := by decide +kernel
theorem dX12_init_819 : decode cX12_init 819 = .ok (.bipush 6, 2) := by decide +kernel
theorem dX12_init_821 : decode cX12_init 821 = .ok (.newarray .int, 2) := by decide +kernel
theorem dX12_init_823 : decode cX12_init 823 = .ok (.putfield 78, 3) := by decide +kernel
theorem dX12_init_826 : decode cX12_init 826 = .ok (.aload_n 0, 1) := by decide +kernel
theorem dX12_init_827 : decode cX12_init 827 = .ok (.bipush 6, 2) := by decide +kernel
theorem dX12_init_829 : decode cX12_init 829 = .ok (.newarray .int, 2) := by decide +kernel
theorem dX12_init_831 : decode cX12_init 831 = .ok (.putfield 81, 3) := by decide +kernel
theorem dX12_init_834 : decode cX12_init 834 = .ok (.aload_n 0, 1) := by decide +kernel
theorem dX12_init_835 : decode cX12_init 835 = .ok (.sipush 128, 3) := by decide +kernel
theorem dX12_init_838 : decode cX12_init 838 = .ok (.newarray .int, 2) := by decide +kernel
theorem dX12_init_840 : decode cX12_init 840 = .ok (.putfield 84, 3) := by decide +kernel
theorem dX12_init_843 : decode cX12_init 843 = .ok (.aload_n 0, 1) := by decide +kernel
theorem dX12_init_844 : decode cX12_init 844 = .ok (.sipush 128, 3) := by decide +kernel
theorem dX12_init_847 : decode cX12_init 847 = .ok (.newarray .int, 2) := by decide +kernel
theorem dX12_init_849 : decode cX12_init 849 = .ok (.putfield 87, 3) := by decide +kernel
theorem dX12_init_852 : decode cX12_init 852 = .ok (.aload_n 0, 1) := by decide +kernel
theorem dX12_init_853 : decode cX12_init 853 = .ok (.sipush 128, 3) := by decide +kernel
theorem dX12_init_856 : decode cX12_init 856 = .ok (.newarray .int, 2) := by decide +kernel
theorem dX12_init_858 : decode cX12_init 858 = .ok (.putfield 90, 3) := by decide +kernel
theorem dX12_init_861 : decode cX12_init 861 = .ok (.aload_n 0, 1) := by decide +kernel
theorem dX12_init_862 : decode cX12_init 862 = .ok (.bipush 96, 2) := by decide +kernel
theorem dX12_init_864 : decode cX12_init 864 = .ok (.newarray .int, 2) := by decide +kernel
theorem dX12_init_866 : decode cX12_init 866 = .ok (.putfield 93, 3) := by decide +kernel
theorem dX12_init_869 : decode cX12_init 869 = .ok (.aload_n 0, 1) := by decide +kernel
theorem dX12_init_870 : decode cX12_init 870 = .ok (.bipush 96, 2) := by decide +kernel
theorem dX12_init_872 : decode cX12_init 872 = .ok (.newarray .int, 2) := by decide +kernel
theorem dX12_init_874 : decode cX12_init 874 = .ok (.putfield 96, 3) := by decide +kernel
theorem dX12_init_877 : decode cX12_init 877 = .ok (.aload_n 0, 1) := by decide +kernel
theorem dX12_init_878 : decode cX12_init 878 = .ok (.bipush 7, 2) := by decide +kernel
theorem dX12_init_880 : decode cX12_init 880 = .ok (.newarray .long, 2) := by decide +kernel
theorem dX12_init_882 : decode cX12_init 882 = .ok (.putfield 99, 3) := by decide +kernel
theorem dX12_init_885 : decode cX12_init 885 = .ok (.aload_n 0, 1) := by decide +kernel
theorem dX12_init_886 : decode cX12_init 886 = .ok (.bipush 64, 2) := by decide +kernel
theorem dX12_init_888 : decode cX12_init 888 = .ok (.newarray .long, 2) := by decide +kernel
theorem dX12_init_890 : decode cX12_init 890 = .ok (.putfield 103, 3) := by decide +kernel
theorem dX12_init_893 : decode cX12_init 893 = .ok (.aload_n 0, 1) := by decide +kernel
theorem dX12_init_894 : decode cX12_init 894 = .ok (.bipush 96, 2) := by decide +kernel
theorem dX12_init_896 : decode cX12_init 896 = .ok (.newarray .int, 2) := by decide +kernel
theorem dX12_init_898 : decode cX12_init 898 = .ok (.putfield 106, 3) := by decide +kernel
theorem dX12_init_901 : decode cX12_init 901 = .ok (.aload_n 0, 1) := by decide +kernel
theorem dX12_init_902 : decode cX12_init 902 = .ok (.sipush 144, 3) := by decide +kernel
theorem dX12_init_905 : decode cX12_init 905 = .ok (.newarray .int, 2) := by decide +kernel
theorem dX12_init_907 : decode cX12_init 907 = .ok (.putfield 109, 3) := by decide +kernel
theorem dX12_init_910 : decode cX12_init 910 = .ok (.aload_n 0, 1) := by decide +kernel
theorem dX12_init_911 : decode cX12_init 911 = .ok (.sipush 144, 3) := by decide +kernel
theorem dX12_init_914 : decode cX12_init 914 = .ok (.newarray .int, 2) := by decide +kernel
theorem dX12_init_916 : decode cX12_init 916 = .ok (.putfield 112, 3) := by decide +kernel
theorem dX12_init_919 : decode cX12_init 919 = .ok (.aload_n 0, 1) := by decide +kernel
theorem dX12_init_920 : decode cX12_init 920 = .ok (.bipush 12, 2) := by decide +kernel
theorem dX12_init_922 : decode cX12_init 922 = .ok (.newarray .int, 2) := by decide +kernel
theorem dX12_init_924 : decode cX12_init 924 = .ok (.putfield 115, 3) := by decide +kernel
theorem dX12_init_927 : decode cX12_init 927 = .ok (.aload_n 0, 1) := by decide +kernel
theorem dX12_init_928 : decode cX12_init 928 = .ok (.bipush 16, 2) := by decide +kernel
theorem dX12_init_930 : decode cX12_init 930 = .ok (.newarray .int, 2) := by decide +kernel
theorem dX12_init_932 : decode cX12_init 932 = .ok (.putfield 118, 3) := by decide +kernel
theorem dX12_init_935 : decode cX12_init 935 = .ok (.aload_n 0, 1) := by decide +kernel
theorem dX12_init_936 : decode cX12_init 936 = .ok (.bipush 16, 2) := by decide +kernel
theorem dX12_init_938 : decode cX12_init 938 = .ok (.newarray .int, 2) := by decide +kernel
theorem dX12_init_940 : decode cX12_init 940 = .ok (.putfield 121, 3) := by decide +kernel
theorem dX12_init_943 : decode cX12_init 943 = .ok (.aload_n 0, 1) := by decide +kernel
theorem dX12_init_944 : decode cX12_init 944 = .ok (.bipush 16, 2) := by decide +kernel
theorem dX12_init_946 : decode cX12_init 946 = .ok (.newarray .int, 2) := by decide +kernel
theorem dX12_init_948 : decode cX12_init 948 = .ok (.putfield 124, 3) := by decide +kernel
theorem dX12_init_951 : decode cX12_init 951 = .ok (.aload_n 0, 1) := by decide +kernel
theorem dX12_init_952 : decode cX12_init 952 = .ok (.bipush 16, 2) := by decide +kernel
theorem dX12_init_954 : decode cX12_init 954 = .ok (.newarray .boolean, 2) := by decide +kernel
theorem dX12_init_956 : decode cX12_init 956 = .ok (.putfield 127, 3) := by decide +kernel
theorem dX12_init_959 : decode cX12_init 959 = .ok (.aload_n 0, 1) := by decide +kernel
theorem dX12_init_960 : decode cX12_init 960 = .ok (.iconst 2, 1) := by decide +kernel
theorem dX12_init_961 : decode cX12_init 961 = .ok (.newarray .int, 2) := by decide +kernel
theorem dX12_init_963 : decode cX12_init 963 = .ok (.putfield 130, 3) := by decide +kernel
theorem dX12_init_966 : decode cX12_init 966 = .ok (.aload_n 0, 1) := by decide +kernel
theorem dX12_init_967 : decode cX12_init 967 = .ok (.iconst 2, 1) := by decide +kernel
theorem dX12_init_968 : decode cX12_init 968 = .ok (.newarray .int, 2) := by decide +kernel
theorem dX12_init_970 : decode cX12_init 970 = .ok (.putfield 133, 3) := by decide +kernel
theorem dX12_init_973 : decode cX12_init 973 = .ok (.aload_n 0, 1) := by decide +kernel
theorem dX12_init_974 : decode cX12_init 974 = .ok (.sipush 1792, 3) := by decide +kernel
theorem dX12_init_977 : decode cX12_init 977 = .ok (.newarray .int, 2) := by decide +kernel
theorem dX12_init_979 : decode cX12_init 979 = .ok (.putfield 136, 3) := by decide +kernel
theorem dX12_init_982 : decode cX12_init 982 = .ok (.aload_n 0, 1) := by decide +kernel
theorem dX12_init_983 : decode cX12_init 983 = .ok (.sipush 1792, 3) := by decide +kernel
theorem dX12_init_986 : decode cX12_init 986 = .ok (.newarray .int, 2) := by decide +kernel
theorem dX12_init_988 : decode cX12_init 988 = .ok (.putfield 139, 3) := by decide +kernel
theorem dX12_init_991 : decode cX12_init 991 = .ok (.aload_n 0, 1) := by decide +kernel
theorem dX12_init_992 : decode cX12_init 992 = .ok (.bipush 48, 2) := by decide +kernel
theorem dX12_init_994 : decode cX12_init 994 = .ok (.newarray .int, 2) := by decide +kernel
theorem dX12_init_996 : decode cX12_init 996 = .ok (.putfield 142, 3) := by decide +kernel
theorem dX12_init_999 : decode cX12_init 999 = .ok (.aload_n 0, 1) := by decide +kernel
theorem dX12_init_1000 : decode cX12_init 1000 = .ok (.iconst (-1), 1) := by decide +kernel
theorem dX12_init_1001 : decode cX12_init 1001 = .ok (.putfield 145, 3) := by decide +kernel
theorem dX12_init_1004 : decode cX12_init 1004 = .ok (.aload_n 0, 1) := by decide +kernel
theorem dX12_init_1005 : decode cX12_init 1005 = .ok (.bipush 96, 2) := by decide +kernel
theorem dX12_init_1007 : decode cX12_init 1007 = .ok (.newarray .int, 2) := by decide +kernel
theorem dX12_init_1009 : decode cX12_init 1009 = .ok (.putfield 148, 3) := by decide +kernel
theorem dX12_init_1012 : decode cX12_init 1012 = .ok (.aload_n 0, 1) := by decide +kernel
theorem dX12_init_1013 : decode cX12_init 1013 = .ok (.bipush 24, 2) := by decide +kernel
theorem dX12_init_1015 : decode cX12_init 1015 = .ok (.newarray .boolean, 2) := by decide +kernel
theorem dX12_init_1017 : decode cX12_init 1017 = .ok (.putfield 151, 3) := by decide +kernel
theorem dX12_init_1020 : decode cX12_init 1020 = .ok (.aload_n 0, 1) := by decide +kernel
theorem dX12_init_1021 : decode cX12_init 1021 = .ok (.bipush 21, 2) := by decide +kernel
theorem dX12_init_1023 : decode cX12_init 1023 = .ok (.newarray .int, 2) := by decide +kernel
theorem dX12_init_1025 : decode cX12_init 1025 = .ok (.putfield 154, 3) := by decide +kernel
theorem dX12_init_1028 : decode cX12_init 1028 = .ok (.aload_n 0, 1) := by decide +kernel
theorem dX12_init_1029 : decode cX12_init 1029 = .ok (.sipush 3160, 3) := by decide +kernel
theorem dX12_init_1032 : decode cX12_init 1032 = .ok (.newarray .int, 2) := by decide +kernel
theorem dX12_init_1034 : decode cX12_init 1034 = .ok (.putfield 157, 3) := by decide +kernel
theorem dX12_init_1037 : decode cX12_init 1037 = .ok (.aload_n 0, 1) := by decide +kernel
theorem dX12_init_1038 : decode cX12_init 1038 = .ok (.sipush 158, 3) := by decide +kernel
theorem dX12_init_1041 : decode cX12_init 1041 = .ok (.newarray .int, 2) := by decide +kernel
theorem dX12_init_1043 : decode cX12_init 1043 = .ok (.putfield 160, 3) := by decide +kernel
theorem dX12_init_1046 : decode cX12_init 1046 = .ok (.aload_n 0, 1) := by decide +kernel
theorem dX12_init_1047 : decode cX12_init 1047 = .ok (.bipush 66, 2) := by decide +kernel
theorem dX12_init_1049 : decode cX12_init 1049 = .ok (.newarray .int, 2) := by decide +kernel
theorem dX12_init_1051 : decode cX12_init 1051 = .ok (.putfield 163, 3) := by decide +kernel
theorem dX12_init_1054 : decode cX12_init 1054 = .ok (.aload_n 0, 1) := by decide +kernel
theorem dX12_init_1055 : decode cX12_init 1055 = .ok (.bipush 8, 2) := by decide +kernel
theorem dX12_init_1057 : decode cX12_init 1057 = .ok (.newarray .boolean, 2) := by decide +kernel
theorem dX12_init_1059 : decode cX12_init 1059 = .ok (.putfield 166, 3) := by decide +kernel
theorem dX12_init_1062 : decode cX12_init 1062 = .ok (.aload_n 0, 1) := by decide +kernel
theorem dX12_init_1063 : decode cX12_init 1063 = .ok (.invokevirtual 169, 3) := by decide +kernel
theorem dX12_init_1066 : decode cX12_init 1066 = .ok (.aload_n 0, 1) := by decide +kernel
theorem dX12_init_1067 : decode cX12_init 1067 = .ok (.invokevirtual 172, 3) := by decide +kernel
theorem dX12_init_1070 : decode cX12_init 1070 = .ok (.return_, 1) := by decide +kernel
theorem dJ9_abs_0f7a4_0 : decode cJ9_abs_0f7a4 0 = .ok (.iload_n 0, 1) := by decide +kernel
theorem dJ9_abs_0f7a4_1 : decode cJ9_abs_0f7a4 1 = .ok (.ifCond .ge 8, 3) := by decide +kernel
theorem dJ9_abs_0f7a4_4 : decode cJ9_abs_0f7a4 4 = .ok (.iload_n 0, 1) := by decide +kernel
theorem dJ9_abs_0f7a4_5 : decode cJ9_abs_0f7a4 5 = .ok (.ineg, 1) := by decide +kernel
theorem dJ9_abs_0f7a4_6 : decode cJ9_abs_0f7a4 6 = .ok (.goto 4, 3) := by decide +kernel
theorem dJ9_abs_0f7a4_9 : decode cJ9_abs_0f7a4 9 = .ok (.iload_n 0, 1) := by decide +kernel
theorem dJ9_abs_0f7a4_10 : decode cJ9_abs_0f7a4 10 = .ok (.ireturn, 1) := by decide +kernel
theorem dJ9_max_7cf53_0 : decode cJ9_max_7cf53 0 = .ok (.iload_n 0, 1) := by decide +kernel
theorem dJ9_max_7cf53_1 : decode cJ9_max_7cf53 1 = .ok (.iload_n 1, 1) := by decide +kernel
theorem dJ9_max_7cf53_2 : decode cJ9_max_7cf53 2 = .ok (.if_icmp .lt 7, 3) := by decide +kernel
theorem dJ9_max_7cf53_5 : decode cJ9_max_7cf53 5 = .ok (.iload_n 0, 1) := by decide +kernel
theorem dJ9_max_7cf53_6 : decode cJ9_max_7cf53 6 = .ok (.goto 4, 3) := by decide +kernel
theorem dJ9_max_7cf53_9 : decode cJ9_max_7cf53 9 = .ok (.iload_n 1, 1) := by decide +kernel
theorem dJ9_max_7cf53_10 : decode cJ9_max_7cf53 10 = .ok (.ireturn, 1) := by decide +kernel
theorem dJ9_max_f86c9_0 : decode cJ9_max_f86c9 0 = .ok (.lload_n 0, 1) := by decide +kernel
theorem dJ9_max_f86c9_1 : decode cJ9_max_f86c9 1 = .ok (.lload_n 2, 1) := by decide +kernel
theorem dJ9_max_f86c9_2 : decode cJ9_max_f86c9 2 = .ok (.lcmp, 1) := by decide +kernel
theorem dJ9_max_f86c9_3 : decode cJ9_max_f86c9 3 = .ok (.ifCond .lt 7, 3) := by decide +kernel
theorem dJ9_max_f86c9_6 : decode cJ9_max_f86c9 6 = .ok (.lload_n 0, 1) := by decide +kernel
theorem dJ9_max_f86c9_7 : decode cJ9_max_f86c9 7 = .ok (.goto 4, 3) := by decide +kernel
theorem dJ9_max_f86c9_10 : decode cJ9_max_f86c9 10 = .ok (.lload_n 2, 1) := by decide +kernel
theorem dJ9_max_f86c9_11 : decode cJ9_max_f86c9 11 = .ok (.lreturn, 1) := by decide +kernel
theorem dJ9_min_7cf53_0 : decode cJ9_min_7cf53 0 = .ok (.iload_n 0, 1) := by decide +kernel
theorem dJ9_min_7cf53_1 : decode cJ9_min_7cf53 1 = .ok (.iload_n 1, 1) := by decide +kernel
theorem dJ9_min_7cf53_2 : decode cJ9_min_7cf53 2 = .ok (.if_icmp .gt 7, 3) := by decide +kernel
theorem dJ9_min_7cf53_5 : decode cJ9_min_7cf53 5 = .ok (.iload_n 0, 1) := by decide +kernel
theorem dJ9_min_7cf53_6 : decode cJ9_min_7cf53 6 = .ok (.goto 4, 3) := by decide +kernel
theorem dJ9_min_7cf53_9 : decode cJ9_min_7cf53 9 = .ok (.iload_n 1, 1) := by decide +kernel
theorem dJ9_min_7cf53_10 : decode cJ9_min_7cf53 10 = .ok (.ireturn, 1) := by decide +kernel
theorem dJ9_min_f86c9_0 : decode cJ9_min_f86c9 0 = .ok (.lload_n 0, 1) := by decide +kernel
theorem dJ9_min_f86c9_1 : decode cJ9_min_f86c9 1 = .ok (.lload_n 2, 1) := by decide +kernel
theorem dJ9_min_f86c9_2 : decode cJ9_min_f86c9 2 = .ok (.lcmp, 1) := by decide +kernel
theorem dJ9_min_f86c9_3 : decode cJ9_min_f86c9 3 = .ok (.ifCond .gt 7, 3) := by decide +kernel
theorem dJ9_min_f86c9_6 : decode cJ9_min_f86c9 6 = .ok (.lload_n 0, 1) := by decide +kernel
theorem dJ9_min_f86c9_7 : decode cJ9_min_f86c9 7 = .ok (.goto 4, 3) := by decide +kernel
theorem dJ9_min_f86c9_10 : decode cJ9_min_f86c9 10 = .ok (.lload_n 2, 1) := by decide +kernel
theorem dJ9_min_f86c9_11 : decode cJ9_min_f86c9 11 = .ok (.lreturn, 1) := by decide +kernel
theorem dJ0_length_8abf5_0 : decode cJ0_length_8abf5 0 = .ok (.aload_n 0, 1) := by decide +kernel
theorem dJ0_length_8abf5_1 : decode cJ0_length_8abf5 1 = .ok (.getfield 9, 3) := by decide +kernel
theorem dJ0_length_8abf5_4 : decode cJ0_length_8abf5 4 = .ok (.arraylength, 1) := by decide +kernel
theorem dJ0_length_8abf5_5 : decode cJ0_length_8abf5 5 = .ok (.aload_n 0, 1) := by decide +kernel
theorem dJ0_length_8abf5_6 : decode cJ0_length_8abf5 6 = .ok (.invokevirtual 335, 3) := by decide +kernel
theorem dJ0_length_8abf5_9 : decode cJ0_length_8abf5 9 = .ok (.ishr, 1) := by decide +kernel
theorem dJ0_length_8abf5_10 : decode cJ0_length_8abf5 10 = .ok (.ireturn, 1) := by decide +kernel
theorem dJ0_charAt_5068e_0 : decode cJ0_charAt_5068e 0 = .ok (.aload_n 0, 1) := by decide +kernel
theorem dJ0_charAt_5068e_1 : decode cJ0_charAt_5068e 1 = .ok (.invokevirtual 492, 3) := by decide +kernel
theorem dJ0_charAt_5068e_4 : decode cJ0_charAt_5068e 4 = .ok (.ifCond .eq 12, 3) := by decide +kernel
theorem dJ0_charAt_5068e_7 : decode cJ0_charAt_5068e 7 = .ok (.aload_n 0, 1) := by decide +kernel
theorem dJ0_charAt_5068e_8 : decode cJ0_charAt_5068e 8 = .ok (.getfield 9, 3) := by decide +kernel
theorem dJ0_charAt_5068e_11 : decode cJ0_charAt_5068e 11 = .ok (.iload_n 1, 1) := by decide +kernel
theorem dJ0_charAt_5068e_12 : decode cJ0_charAt_5068e 12 = .ok (.invokestatic 495, 3) := by decide +kernel
theorem dJ0_charAt_5068e_15 : decode cJ0_charAt_5068e 15 = .ok (.ireturn, 1) := by decide +kernel
theorem dJ0_charAt_5068e_16 : decode cJ0_charAt_5068e 16 = .ok (.aload_n 0, 1) := by decide +kernel
theorem dJ0_charAt_5068e_17 : decode cJ0_charAt_5068e 17 = .ok (.getfield 9, 3) := by decide +kernel
theorem dJ0_charAt_5068e_20 : decode cJ0_charAt_5068e 20 = .ok (.iload_n 1, 1) := by decide +kernel
theorem dJ0_charAt_5068e_21 : decode cJ0_charAt_5068e 21 = .ok (.invokestatic 498, 3) := by decide +kernel
theorem dJ0_charAt_5068e_24 : decode cJ0_charAt_5068e 24 = .ok (.ireturn, 1) := by decide +kernel
theorem dJ0_coder_7d493_0 : decode cJ0_coder_7d493 0 = .ok (.getstatic 38, 3) := by decide +kernel
theorem dJ0_coder_7d493_3 : decode cJ0_coder_7d493 3 = .ok (.ifCond .eq 10, 3) := by decide +kernel
theorem dJ0_coder_7d493_6 : decode cJ0_coder_7d493 6 = .ok (.aload_n 0, 1) := by decide +kernel
theorem dJ0_coder_7d493_7 : decode cJ0_coder_7d493 7 = .ok (.getfield 15, 3) := by decide +kernel
theorem dJ0_coder_7d493_10 : decode cJ0_coder_7d493 10 = .ok (.goto 4, 3) := by decide +kernel
theorem dJ0_coder_7d493_13 : decode cJ0_coder_7d493 13 = .ok (.iconst 1, 1) := by decide +kernel
theorem dJ0_coder_7d493_14 : decode cJ0_coder_7d493 14 = .ok (.ireturn, 1) := by decide +kernel
theorem dJ0_isLatin1_aae02_0 : decode cJ0_isLatin1_aae02 0 = .ok (.getstatic 38, 3) := by decide +kernel
theorem dJ0_isLatin1_aae02_3 : decode cJ0_isLatin1_aae02 3 = .ok (.ifCond .eq 14, 3) := by decide +kernel
theorem dJ0_isLatin1_aae02_6 : decode cJ0_isLatin1_aae02 6 = .ok (.aload_n 0, 1) := by decide +kernel
theorem dJ0_isLatin1_aae02_7 : decode cJ0_isLatin1_aae02 7 = .ok (.getfield 15, 3) := by decide +kernel
theorem dJ0_isLatin1_aae02_10 : decode cJ0_isLatin1_aae02 10 = .ok (.ifCond .ne 7, 3) := by decide +kernel
theorem dJ0_isLatin1_aae02_13 : decode cJ0_isLatin1_aae02 13 = .ok (.iconst 1, 1) := by decide +kernel
theorem dJ0_isLatin1_aae02_14 : decode cJ0_isLatin1_aae02 14 = .ok (.goto 4, 3) := by decide +kernel
theorem dJ0_isLatin1_aae02_17 : decode cJ0_isLatin1_aae02 17 = .ok (.iconst 0, 1) := by decide +kernel
theorem dJ0_isLatin1_aae02_18 : decode cJ0_isLatin1_aae02 18 = .ok (.ireturn, 1) := by decide +kernel
theorem dJ0_checkIndex_df160_0 : decode cJ0_checkIndex_df160 0 = .ok (.iload_n 0, 1) := by decide +kernel
theorem dJ0_checkIndex_df160_1 : decode cJ0_checkIndex_df160 1 = .ok (.iload_n 1, 1) := by decide +kernel
theorem dJ0_checkIndex_df160_2 : decode cJ0_checkIndex_df160 2 = .ok (.getstatic 1053, 3) := by decide +kernel
theorem dJ0_checkIndex_df160_5 : decode cJ0_checkIndex_df160 5 = .ok (.invokestatic 1059, 3) := by decide +kernel
theorem dJ0_checkIndex_df160_8 : decode cJ0_checkIndex_df160 8 = .ok (.pop, 1) := by decide +kernel
theorem dJ0_checkIndex_df160_9 : decode cJ0_checkIndex_df160 9 = .ok (.return_, 1) := by decide +kernel
theorem dJ1_charAt_3b067_0 : decode cJ1_charAt_3b067 0 = .ok (.iload_n 1, 1) := by decide +kernel
theorem dJ1_charAt_3b067_1 : decode cJ1_charAt_3b067 1 = .ok (.aload_n 0, 1) := by decide +kernel
theorem dJ1_charAt_3b067_2 : decode cJ1_charAt_3b067 2 = .ok (.arraylength, 1) := by decide +kernel
theorem dJ1_charAt_3b067_3 : decode cJ1_charAt_3b067 3 = .ok (.invokestatic 9, 3) := by decide +kernel
theorem dJ1_charAt_3b067_6 : decode cJ1_charAt_3b067 6 = .ok (.aload_n 0, 1) := by decide +kernel
theorem dJ1_charAt_3b067_7 : decode cJ1_charAt_3b067 7 = .ok (.iload_n 1, 1) := by decide +kernel
theorem dJ1_charAt_3b067_8 : decode cJ1_charAt_3b067 8 = .ok (.baload, 1) := by decide +kernel
theorem dJ1_charAt_3b067_9 : decode cJ1_charAt_3b067 9 = .ok (.sipush 255, 3) := by decide +kernel
theorem dJ1_charAt_3b067_12 : decode cJ1_charAt_3b067 12 = .ok (.iand, 1) := by decide +kernel
theorem dJ1_charAt_3b067_13 : decode cJ1_charAt_3b067 13 = .ok (.i2c, 1) := by decide +kernel
theorem dJ1_charAt_3b067_14 : decode cJ1_charAt_3b067 14 = .ok (.ireturn, 1) := by decide +kernel
theorem dJ2_getChar_3b067_0 : decode cJ2_getChar_3b067 0 = .ok (.getstatic 44, 3) := by decide +kernel
theorem dJ2_getChar_3b067_3 : decode cJ2_getChar_3b067 3 = .ok (.ifCond .ne 25, 3) := by decide +kernel
theorem dJ2_getChar_3b067_6 : decode cJ2_getChar_3b067 6 = .ok (.iload_n 1, 1) := by decide +kernel
theorem dJ2_getChar_3b067_7 : decode cJ2_getChar_3b067 7 = .ok (.ifCond .lt 11, 3) := by decide +kernel
theorem dJ2_getChar_3b067_10 : decode cJ2_getChar_3b067 10 = .ok (.iload_n 1, 1) := by decide +kernel
theorem dJ2_getChar_3b067_11 : decode cJ2_getChar_3b067 11 = .ok (.aload_n 0, 1) := by decide +kernel
theorem dJ2_getChar_3b067_12 : decode cJ2_getChar_3b067 12 = .ok (.invokestatic 48, 3) := by decide +kernel
theorem dJ2_getChar_3b067_15 : decode cJ2_getChar_3b067 15 = .ok (.if_icmp .lt 13, 3) := by decide +kernel
theorem dJ2_getChar_3b067_18 : decode cJ2_getChar_3b067 18 = .ok (.new 52, 3) := by decide +kernel
theorem dJ2_getChar_3b067_21 : decode cJ2_getChar_3b067 21 = .ok (.dup, 1) := by decide +kernel
theorem dJ2_getChar_3b067_22 : decode cJ2_getChar_3b067 22 = .ok (.ldc 54, 2) := by decide +kernel
theorem dJ2_getChar_3b067_24 : decode cJ2_getChar_3b067 24 = .ok (.invokespecial 56, 3) := by decide +kernel
theorem dJ2_getChar_3b067_27 : decode cJ2_getChar_3b067 27 = .ok (.athrow, 1) := by decide +kernel
theorem dJ2_getChar_3b067_28 : decode cJ2_getChar_3b067 28 = .ok (.iload_n 1, 1) := by decide +kernel
theorem dJ2_getChar_3b067_29 : decode cJ2_getChar_3b067 29 = .ok (.iconst 1, 1) := by decide +kernel
theorem dJ2_getChar_3b067_30 : decode cJ2_getChar_3b067 30 = .ok (.ishl, 1) := by decide +kernel
theorem dJ2_getChar_3b067_31 : decode cJ2_getChar_3b067 31 = .ok (.istore_n 1, 1) := by decide +kernel
theorem dJ2_getChar_3b067_32 : decode cJ2_getChar_3b067 32 = .ok (.aload_n 0, 1) := by decide +kernel
theorem dJ2_getChar_3b067_33 : decode cJ2_getChar_3b067 33 = .ok (.iload_n 1, 1) := by decide +kernel
theorem dJ2_getChar_3b067_34 : decode cJ2_getChar_3b067 34 = .ok (.iinc 1 1, 3) := by decide +kernel
theorem dJ2_getChar_3b067_37 : decode cJ2_getChar_3b067 37 = .ok (.baload, 1) := by decide +kernel
theorem dJ2_getChar_3b067_38 : decode cJ2_getChar_3b067 38 = .ok (.sipush 255, 3) := by decide +kernel
theorem dJ2_getChar_3b067_41 : decode cJ2_getChar_3b067 41 = .ok (.iand, 1) := by decide +kernel
theorem dJ2_getChar_3b067_42 : decode cJ2_getChar_3b067 42 = .ok (.getstatic 59, 3) := by decide +kernel
theorem dJ2_getChar_3b067_45 : decode cJ2_getChar_3b067 45 = .ok (.ishl, 1) := by decide +kernel
theorem dJ2_getChar_3b067_46 : decode cJ2_getChar_3b067 46 = .ok (.aload_n 0, 1) := by decide +kernel
theorem dJ2_getChar_3b067_47 : decode cJ2_getChar_3b067 47 = .ok (.iload_n 1, 1) := by decide +kernel
theorem dJ2_getChar_3b067_48 : decode cJ2_getChar_3b067 48 = .ok (.baload, 1) := by decide +kernel
theorem dJ2_getChar_3b067_49 : decode cJ2_getChar_3b067 49 = .ok (.sipush 255, 3) := by decide +kernel
theorem dJ2_getChar_3b067_52 : decode cJ2_getChar_3b067 52 = .ok (.iand, 1) := by decide +kernel
theorem dJ2_getChar_3b067_53 : decode cJ2_getChar_3b067 53 = .ok (.getstatic 63, 3) := by decide +kernel
theorem dJ2_getChar_3b067_56 : decode cJ2_getChar_3b067 56 = .ok (.ishl, 1) := by decide +kernel
theorem dJ2_getChar_3b067_57 : decode cJ2_getChar_3b067 57 = .ok (.ior, 1) := by decide +kernel
theorem dJ2_getChar_3b067_58 : decode cJ2_getChar_3b067 58 = .ok (.i2c, 1) := by decide +kernel
theorem dJ2_getChar_3b067_59 : decode cJ2_getChar_3b067 59 = .ok (.ireturn, 1) := by decide +kernel
theorem dJ2_length_9d52b_0 : decode cJ2_length_9d52b 0 = .ok (.aload_n 0, 1) := by decide +kernel
theorem dJ2_length_9d52b_1 : decode cJ2_length_9d52b 1 = .ok (.arraylength, 1) := by decide +kernel
theorem dJ2_length_9d52b_2 : decode cJ2_length_9d52b 2 = .ok (.iconst 1, 1) := by decide +kernel
theorem dJ2_length_9d52b_3 : decode cJ2_length_9d52b 3 = .ok (.ishr, 1) := by decide +kernel
theorem dJ2_length_9d52b_4 : decode cJ2_length_9d52b 4 = .ok (.ireturn, 1) := by decide +kernel
theorem dJ2_charAt_3b067_0 : decode cJ2_charAt_3b067 0 = .ok (.iload_n 1, 1) := by decide +kernel
theorem dJ2_charAt_3b067_1 : decode cJ2_charAt_3b067 1 = .ok (.aload_n 0, 1) := by decide +kernel
theorem dJ2_charAt_3b067_2 : decode cJ2_charAt_3b067 2 = .ok (.invokestatic 67, 3) := by decide +kernel
theorem dJ2_charAt_3b067_5 : decode cJ2_charAt_3b067 5 = .ok (.aload_n 0, 1) := by decide +kernel
theorem dJ2_charAt_3b067_6 : decode cJ2_charAt_3b067 6 = .ok (.iload_n 1, 1) := by decide +kernel
theorem dJ2_charAt_3b067_7 : decode cJ2_charAt_3b067 7 = .ok (.invokestatic 71, 3) := by decide +kernel
theorem dJ2_charAt_3b067_10 : decode cJ2_charAt_3b067 10 = .ok (.ireturn, 1) := by decide +kernel
theorem dJ2_checkIndex_2214a_0 : decode cJ2_checkIndex_2214a 0 = .ok (.iload_n 0, 1) := by decide +kernel
theorem dJ2_checkIndex_2214a_1 : decode cJ2_checkIndex_2214a 1 = .ok (.aload_n 1, 1) := by decide +kernel
theorem dJ2_checkIndex_2214a_2 : decode cJ2_checkIndex_2214a 2 = .ok (.invokestatic 48, 3) := by decide +kernel
theorem dJ2_checkIndex_2214a_5 : decode cJ2_checkIndex_2214a 5 = .ok (.invokestatic 414, 3) := by decide +kernel
theorem dJ2_checkIndex_2214a_8 : decode cJ2_checkIndex_2214a 8 = .ok (.return_, 1) := by decide +kernel
theorem dJ3_checkIndex_8e157_0 : decode cJ3_checkIndex_8e157 0 = .ok (.iload_n 0, 1) := by decide +kernel
theorem dJ3_checkIndex_8e157_1 : decode cJ3_checkIndex_8e157 1 = .ok (.ifCond .lt 8, 3) := by decide +kernel
theorem dJ3_checkIndex_8e157_4 : decode cJ3_checkIndex_8e157 4 = .ok (.iload_n 0, 1) := by decide +kernel
theorem dJ3_checkIndex_8e157_5 : decode cJ3_checkIndex_8e157 5 = .ok (.iload_n 1, 1) := by decide +kernel
theorem dJ3_checkIndex_8e157_6 : decode cJ3_checkIndex_8e157 6 = .ok (.if_icmp .lt 10, 3) := by decide +kernel
theorem dJ3_checkIndex_8e157_9 : decode cJ3_checkIndex_8e157 9 = .ok (.aload_n 2, 1) := by decide +kernel
theorem dJ3_checkIndex_8e157_10 : decode cJ3_checkIndex_8e157 10 = .ok (.iload_n 0, 1) := by decide +kernel
theorem dJ3_checkIndex_8e157_11 : decode cJ3_checkIndex_8e157 11 = .ok (.iload_n 1, 1) := by decide +kernel
theorem dJ3_checkIndex_8e157_12 : decode cJ3_checkIndex_8e157 12 = .ok (.invokestatic 95, 3) := by decide +kernel
theorem dJ3_checkIndex_8e157_15 : decode cJ3_checkIndex_8e157 15 = .ok (.athrow, 1) := by decide +kernel
theorem dJ3_checkIndex_8e157_16 : decode cJ3_checkIndex_8e157 16 = .ok (.iload_n 0, 1) := by decide +kernel
theorem dJ3_checkIndex_8e157_17 : decode cJ3_checkIndex_8e157 17 = .ok (.ireturn, 1) := by decide +kernel
