theorem dX12_weds2_166 : decode cX12_weds2 166 = .ok (.iastore, 1) := by decide +kernel
theorem dX12_weds2_167 : decode cX12_weds2 167 = .ok (.aload_n 0, 1) := by decide +kernel
theorem dX12_weds2_168 : decode cX12_weds2 168 = .ok (.getfield 118, 3) := by decide +kernel
theorem dX12_weds2_171 : decode cX12_weds2 171 = .ok (.iload 4, 2) := by decide +kernel
theorem dX12_weds2_173 : decode cX12_weds2 173 = .ok (.iload 5, 2) := by decide +kernel
theorem dX12_weds2_175 : decode cX12_weds2 175 = .ok (.iastore, 1) := by decide +kernel
theorem dX12_weds2_176 : decode cX12_weds2 176 = .ok (.return_, 1) := by decide +kernel
theorem dX12_pinches_0 : decode cX12_pinches 0 = .ok (.bipush 8, 2) := by decide +kernel
theorem dX12_pinches_2 : decode cX12_pinches 2 = .ok (.iload_n 1, 1) := by decide +kernel
theorem dX12_pinches_3 : decode cX12_pinches 3 = .ok (.imul, 1) := by decide +kernel
theorem dX12_pinches_4 : decode cX12_pinches 4 = .ok (.iload_n 2, 1) := by decide +kernel
theorem dX12_pinches_5 : decode cX12_pinches 5 = .ok (.iadd, 1) := by decide +kernel
theorem dX12_pinches_6 : decode cX12_pinches 6 = .ok (.istore_n 3, 1) := by decide +kernel
theorem dX12_pinches_7 : decode cX12_pinches 7 = .ok (.aload_n 0, 1) := by decide +kernel
theorem dX12_pinches_8 : decode cX12_pinches 8 = .ok (.iload_n 1, 1) := by decide +kernel
theorem dX12_pinches_9 : decode cX12_pinches 9 = .ok (.iload_n 2, 1) := by decide +kernel
theorem dX12_pinches_10 : decode cX12_pinches 10 = .ok (.invokevirtual 463, 3) := by decide +kernel
theorem dX12_pinches_13 : decode cX12_pinches 13 = .ok (.aload_n 0, 1) := by decide +kernel
theorem dX12_pinches_14 : decode cX12_pinches 14 = .ok (.iload_n 1, 1) := by decide +kernel
theorem dX12_pinches_15 : decode cX12_pinches 15 = .ok (.iload_n 2, 1) := by decide +kernel
theorem dX12_pinches_16 : decode cX12_pinches 16 = .ok (.invokevirtual 443, 3) := by decide +kernel
theorem dX12_pinches_19 : decode cX12_pinches 19 = .ok (.istore 4, 2) := by decide +kernel
theorem dX12_pinches_21 : decode cX12_pinches 21 = .ok (.iload 4, 2) := by decide +kernel
theorem dX12_pinches_23 : decode cX12_pinches 23 = .ok (.aload_n 0, 1) := by decide +kernel
theorem dX12_pinches_24 : decode cX12_pinches 24 = .ok (.getfield 423, 3) := by decide +kernel
theorem dX12_pinches_27 : decode cX12_pinches 27 = .ok (.ifCond .eq 7, 3) := by decide +kernel
theorem dX12_pinches_30 : decode cX12_pinches 30 = .ok (.iconst 0, 1) := by decide +kernel
theorem dX12_pinches_31 : decode cX12_pinches 31 = .ok (.goto 13, 3) := by decide +kernel
theorem dX12_pinches_34 : decode cX12_pinches 34 = .ok (.aload_n 0, 1) := by decide +kernel
theorem dX12_pinches_35 : decode cX12_pinches 35 = .ok (.iconst 1, 1) := by decide +kernel
theorem dX12_pinches_36 : decode cX12_pinches 36 = .ok (.bipush 10, 2) := by decide +kernel
theorem dX12_pinches_38 : decode cX12_pinches 38 = .ok (.sipush 999, 3) := by decide +kernel
theorem dX12_pinches_41 : decode cX12_pinches 41 = .ok (.invokevirtual 456, 3) := by decide +kernel
theorem dX12_pinches_44 : decode cX12_pinches 44 = .ok (.if_icmp .gt 4, 3) := by decide +kernel
theorem dX12_pinches_47 : decode cX12_pinches 47 = .ok (.return_, 1) := by decide +kernel
theorem dX12_pinches_48 : decode cX12_pinches 48 = .ok (.aload_n 0, 1) := by decide +kernel
theorem dX12_pinches_49 : decode cX12_pinches 49 = .ok (.iconst 2, 1) := by decide +kernel
theorem dX12_pinches_50 : decode cX12_pinches 50 = .ok (.iconst 1, 1) := by decide +kernel
theorem dX12_pinches_51 : decode cX12_pinches 51 = .ok (.bipush 9, 2) := by decide +kernel
theorem dX12_pinches_53 : decode cX12_pinches 53 = .ok (.invokevirtual 456, 3) := by decide +kernel
theorem dX12_pinches_56 : decode cX12_pinches 56 = .ok (.istore 5, 2) := by decide +kernel
theorem dX12_pinches_58 : decode cX12_pinches 58 = .ok (.aload_n 0, 1) := by decide +kernel
theorem dX12_pinches_59 : decode cX12_pinches 59 = .ok (.getfield 124, 3) := by decide +kernel
theorem dX12_pinches_62 : decode cX12_pinches 62 = .ok (.iload_n 3, 1) := by decide +kernel
theorem dX12_pinches_63 : decode cX12_pinches 63 = .ok (.aload_n 0, 1) := by decide +kernel
theorem dX12_pinches_64 : decode cX12_pinches 64 = .ok (.getfield 124, 3) := by decide +kernel
theorem dX12_pinches_67 : decode cX12_pinches 67 = .ok (.iload_n 3, 1) := by decide +kernel
theorem dX12_pinches_68 : decode cX12_pinches 68 = .ok (.iaload, 1) := by decide +kernel
theorem dX12_pinches_69 : decode cX12_pinches 69 = .ok (.sipush 999, 3) := by decide +kernel
theorem dX12_pinches_72 : decode cX12_pinches 72 = .ok (.if_icmp .ge 14, 3) := by decide +kernel
theorem dX12_pinches_75 : decode cX12_pinches 75 = .ok (.aload_n 0, 1) := by decide +kernel
theorem dX12_pinches_76 : decode cX12_pinches 76 = .ok (.getfield 124, 3) := by decide +kernel
theorem dX12_pinches_79 : decode cX12_pinches 79 = .ok (.iload_n 3, 1) := by decide +kernel
theorem dX12_pinches_80 : decode cX12_pinches 80 = .ok (.iaload, 1) := by decide +kernel
theorem dX12_pinches_81 : decode cX12_pinches 81 = .ok (.iconst 1, 1) := by decide +kernel
theorem dX12_pinches_82 : decode cX12_pinches 82 = .ok (.iadd, 1) := by decide +kernel
theorem dX12_pinches_83 : decode cX12_pinches 83 = .ok (.goto 6, 3) := by decide +kernel
theorem dX12_pinches_86 : decode cX12_pinches 86 = .ok (.sipush 999, 3) := by decide +kernel
theorem dX12_pinches_89 : decode cX12_pinches 89 = .ok (.iastore, 1) := by decide +kernel
theorem dX12_pinches_90 : decode cX12_pinches 90 = .ok (.aload_n 0, 1) := by decide +kernel
theorem dX12_pinches_91 : decode cX12_pinches 91 = .ok (.getfield 121, 3) := by decide +kernel
theorem dX12_pinches_94 : decode cX12_pinches 94 = .ok (.iload_n 3, 1) := by decide +kernel
theorem dX12_pinches_95 : decode cX12_pinches 95 = .ok (.aload_n 0, 1) := by decide +kernel
theorem dX12_pinches_96 : decode cX12_pinches 96 = .ok (.getfield 121, 3) := by decide +kernel
theorem dX12_pinches_99 : decode cX12_pinches 99 = .ok (.iload_n 3, 1) := by decide +kernel
theorem dX12_pinches_100 : decode cX12_pinches 100 = .ok (.iaload, 1) := by decide +kernel
theorem dX12_pinches_101 : decode cX12_pinches 101 = .ok (.iload 5, 2) := by decide +kernel
theorem dX12_pinches_103 : decode cX12_pinches 103 = .ok (.iadd, 1) := by decide +kernel
theorem dX12_pinches_104 : decode cX12_pinches 104 = .ok (.bipush 60, 2) := by decide +kernel
theorem dX12_pinches_106 : decode cX12_pinches 106 = .ok (.if_icmp .ge 15, 3) := by decide +kernel
theorem dX12_pinches_109 : decode cX12_pinches 109 = .ok (.aload_n 0, 1) := by decide +kernel
theorem dX12_pinches_110 : decode cX12_pinches 110 = .ok (.getfield 121, 3) := by decide +kernel
theorem dX12_pinches_113 : decode cX12_pinches 113 = .ok (.iload_n 3, 1) := by decide +kernel
theorem dX12_pinches_114 : decode cX12_pinches 114 = .ok (.iaload, 1) := by decide +kernel
theorem dX12_pinches_115 : decode cX12_pinches 115 = .ok (.iload 5, 2) := by decide +kernel
theorem dX12_pinches_117 : decode cX12_pinches 117 = .ok (.iadd, 1) := by decide +kernel
theorem dX12_pinches_118 : decode cX12_pinches 118 = .ok (.goto 5, 3) := by decide +kernel
theorem dX12_pinches_121 : decode cX12_pinches 121 = .ok (.bipush 60, 2) := by decide +kernel
theorem dX12_pinches_123 : decode cX12_pinches 123 = .ok (.iastore, 1) := by decide +kernel
theorem dX12_pinches_124 : decode cX12_pinches 124 = .ok (.return_, 1) := by decide +kernel
theorem dX12_number1_0 : decode cX12_number1 0 = .ok (.aload_n 0, 1) := by decide +kernel
theorem dX12_number1_1 : decode cX12_number1 1 = .ok (.aload_n 0, 1) := by decide +kernel
theorem dX12_number1_2 : decode cX12_number1 2 = .ok (.getfield 391, 3) := by decide +kernel
theorem dX12_number1_5 : decode cX12_number1 5 = .ok (.ldc2_w 466, 3) := by decide +kernel
theorem dX12_number1_8 : decode cX12_number1 8 = .ok (.lmul, 1) := by decide +kernel
theorem dX12_number1_9 : decode cX12_number1 9 = .ok (.ldc2_w 468, 3) := by decide +kernel
theorem dX12_number1_12 : decode cX12_number1 12 = .ok (.ladd, 1) := by decide +kernel
theorem dX12_number1_13 : decode cX12_number1 13 = .ok (.ldc2_w 470, 3) := by decide +kernel
theorem dX12_number1_16 : decode cX12_number1 16 = .ok (.land, 1) := by decide +kernel
theorem dX12_number1_17 : decode cX12_number1 17 = .ok (.putfield 391, 3) := by decide +kernel
theorem dX12_number1_20 : decode cX12_number1 20 = .ok (.aload_n 0, 1) := by decide +kernel
theorem dX12_number1_21 : decode cX12_number1 21 = .ok (.getfield 391, 3) := by decide +kernel
theorem dX12_number1_24 : decode cX12_number1 24 = .ok (.ldc2_w 472, 3) := by decide +kernel
theorem dX12_number1_27 : decode cX12_number1 27 = .ok (.ldiv, 1) := by decide +kernel
theorem dX12_number1_28 : decode cX12_number1 28 = .ok (.iload_n 1, 1) := by decide +kernel
theorem dX12_number1_29 : decode cX12_number1 29 = .ok (.i2l, 1) := by decide +kernel
theorem dX12_number1_30 : decode cX12_number1 30 = .ok (.lrem, 1) := by decide +kernel
theorem dX12_number1_31 : decode cX12_number1 31 = .ok (.l2i, 1) := by decide +kernel
theorem dX12_number1_32 : decode cX12_number1 32 = .ok (.ireturn, 1) := by decide +kernel
theorem dX12_isDamp_0 : decode cX12_isDamp 0 = .ok (.aload_n 0, 1) := by decide +kernel
theorem dX12_isDamp_1 : decode cX12_isDamp 1 = .ok (.getfield 414, 3) := by decide +kernel
theorem dX12_isDamp_4 : decode cX12_isDamp 4 = .ok (.ifCond .ne 12, 3) := by decide +kernel
theorem dX12_isDamp_7 : decode cX12_isDamp 7 = .ok (.aload_n 0, 1) := by decide +kernel
theorem dX12_isDamp_8 : decode cX12_isDamp 8 = .ok (.getfield 24, 3) := by decide +kernel
theorem dX12_isDamp_11 : decode cX12_isDamp 11 = .ok (.iconst 0, 1) := by decide +kernel
theorem dX12_isDamp_12 : decode cX12_isDamp 12 = .ok (.iaload, 1) := by decide +kernel
theorem dX12_isDamp_13 : decode cX12_isDamp 13 = .ok (.ifCond .ne 5, 3) := by decide +kernel
theorem dX12_isDamp_16 : decode cX12_isDamp 16 = .ok (.iconst 0, 1) := by decide +kernel
theorem dX12_isDamp_17 : decode cX12_isDamp 17 = .ok (.ireturn, 1) := by decide +kernel
theorem dX12_isDamp_18 : decode cX12_isDamp 18 = .ok (.aload_n 0, 1) := by decide +kernel
theorem dX12_isDamp_19 : decode cX12_isDamp 19 = .ok (.getfield 24, 3) := by decide +kernel
theorem dX12_isDamp_22 : decode cX12_isDamp 22 = .ok (.iconst 0, 1) := by decide +kernel
theorem dX12_isDamp_23 : decode cX12_isDamp 23 = .ok (.iaload, 1) := by decide +kernel
theorem dX12_isDamp_24 : decode cX12_isDamp 24 = .ok (.bipush 100, 2) := by decide +kernel
theorem dX12_isDamp_26 : decode cX12_isDamp 26 = .ok (.if_icmp .ne 5, 3) := by decide +kernel
theorem dX12_isDamp_29 : decode cX12_isDamp 29 = .ok (.iconst 1, 1) := by decide +kernel
theorem dX12_isDamp_30 : decode cX12_isDamp 30 = .ok (.ireturn, 1) := by decide +kernel
theorem dX12_isDamp_31 : decode cX12_isDamp 31 = .ok (.aload_n 0, 1) := by decide +kernel
theorem dX12_isDamp_32 : decode cX12_isDamp 32 = .ok (.getfield 411, 3) := by decide +kernel
theorem dX12_isDamp_35 : decode cX12_isDamp 35 = .ok (.ifCond .eq 26, 3) := by decide +kernel
theorem dX12_isDamp_38 : decode cX12_isDamp 38 = .ok (.aload_n 0, 1) := by decide +kernel
theorem dX12_isDamp_39 : decode cX12_isDamp 39 = .ok (.bipush 100, 2) := by decide +kernel
theorem dX12_isDamp_41 : decode cX12_isDamp 41 = .ok (.invokevirtual 474, 3) := by decide +kernel
theorem dX12_isDamp_44 : decode cX12_isDamp 44 = .ok (.aload_n 0, 1) := by decide +kernel
theorem dX12_isDamp_45 : decode cX12_isDamp 45 = .ok (.getfield 24, 3) := by decide +kernel
theorem dX12_isDamp_48 : decode cX12_isDamp 48 = .ok (.iconst 0, 1) := by decide +kernel
theorem dX12_isDamp_49 : decode cX12_isDamp 49 = .ok (.iaload, 1) := by decide +kernel
theorem dX12_isDamp_50 : decode cX12_isDamp 50 = .ok (.if_icmp .ge 7, 3) := by decide +kernel
theorem dX12_isDamp_53 : decode cX12_isDamp 53 = .ok (.iconst 1, 1) := by decide +kernel
theorem dX12_isDamp_54 : decode cX12_isDamp 54 = .ok (.goto 23, 3) := by decide +kernel
theorem dX12_isDamp_57 : decode cX12_isDamp 57 = .ok (.iconst 0, 1) := by decide +kernel
theorem dX12_isDamp_58 : decode cX12_isDamp 58 = .ok (.goto 19, 3) := by decide +kernel
theorem dX12_isDamp_61 : decode cX12_isDamp 61 = .ok (.aload_n 0, 1) := by decide +kernel
theorem dX12_isDamp_62 : decode cX12_isDamp 62 = .ok (.getfield 24, 3) := by decide +kernel
theorem dX12_isDamp_65 : decode cX12_isDamp 65 = .ok (.iconst 0, 1) := by decide +kernel
theorem dX12_isDamp_66 : decode cX12_isDamp 66 = .ok (.iaload, 1) := by decide +kernel
theorem dX12_isDamp_67 : decode cX12_isDamp 67 = .ok (.bipush 50, 2) := by decide +kernel
theorem dX12_isDamp_69 : decode cX12_isDamp 69 = .ok (.if_icmp .lt 7, 3) := by decide +kernel
theorem dX12_isDamp_72 : decode cX12_isDamp 72 = .ok (.iconst 1, 1) := by decide +kernel
theorem dX12_isDamp_73 : decode cX12_isDamp 73 = .ok (.goto 4, 3) := by decide +kernel
theorem dX12_isDamp_76 : decode cX12_isDamp 76 = .ok (.iconst 0, 1) := by decide +kernel
theorem dX12_isDamp_77 : decode cX12_isDamp 77 = .ok (.ireturn, 1) := by decide +kernel
theorem dX12_yearGoes_0 : decode cX12_yearGoes 0 = .ok (.iconst 0, 1) := by decide +kernel
theorem dX12_yearGoes_1 : decode cX12_yearGoes 1 = .ok (.istore_n 2, 1) := by decide +kernel
theorem dX12_yearGoes_2 : decode cX12_yearGoes 2 = .ok (.iload_n 2, 1) := by decide +kernel
theorem dX12_yearGoes_3 : decode cX12_yearGoes 3 = .ok (.aload_n 0, 1) := by decide +kernel
theorem dX12_yearGoes_4 : decode cX12_yearGoes 4 = .ok (.getfield 264, 3) := by decide +kernel
theorem dX12_yearGoes_7 : decode cX12_yearGoes 7 = .ok (.if_icmp .ge 37, 3) := by decide +kernel
theorem dX12_yearGoes_10 : decode cX12_yearGoes 10 = .ok (.aload_n 0, 1) := by decide +kernel
theorem dX12_yearGoes_11 : decode cX12_yearGoes 11 = .ok (.getfield 417, 3) := by decide +kernel
theorem dX12_yearGoes_14 : decode cX12_yearGoes 14 = .ok (.ifCond .ne 30, 3) := by decide +kernel
theorem dX12_yearGoes_17 : decode cX12_yearGoes 17 = .ok (.aload_n 0, 1) := by decide +kernel
theorem dX12_yearGoes_18 : decode cX12_yearGoes 18 = .ok (.getfield 60, 3) := by decide +kernel
theorem dX12_yearGoes_21 : decode cX12_yearGoes 21 = .ok (.iload_n 2, 1) := by decide +kernel
theorem dX12_yearGoes_22 : decode cX12_yearGoes 22 = .ok (.iaload, 1) := by decide +kernel
theorem dX12_yearGoes_23 : decode cX12_yearGoes 23 = .ok (.aload_n 0, 1) := by decide +kernel
theorem dX12_yearGoes_24 : decode cX12_yearGoes 24 = .ok (.getfield 133, 3) := by decide +kernel
theorem dX12_yearGoes_27 : decode cX12_yearGoes 27 = .ok (.iload_n 1, 1) := by decide +kernel
theorem dX12_yearGoes_28 : decode cX12_yearGoes 28 = .ok (.iaload, 1) := by decide +kernel
theorem dX12_yearGoes_29 : decode cX12_yearGoes 29 = .ok (.if_icmp .ne 9, 3) := by decide +kernel
theorem dX12_yearGoes_32 : decode cX12_yearGoes 32 = .ok (.aload_n 0, 1) := by decide +kernel
theorem dX12_yearGoes_33 : decode cX12_yearGoes 33 = .ok (.iload_n 1, 1) := by decide +kernel
theorem dX12_yearGoes_34 : decode cX12_yearGoes 34 = .ok (.iload_n 2, 1) := by decide +kernel
theorem dX12_yearGoes_35 : decode cX12_yearGoes 35 = .ok (.invokevirtual 477, 3) := by decide +kernel
theorem dX12_yearGoes_38 : decode cX12_yearGoes 38 = .ok (.iinc 2 1, 3) := by decide +kernel
theorem dX12_yearGoes_41 : decode cX12_yearGoes 41 = .ok (.goto (-39), 3) := by decide +kernel
theorem dX12_yearGoes_44 : decode cX12_yearGoes 44 = .ok (.iconst 0, 1) := by decide +kernel
theorem dX12_yearGoes_45 : decode cX12_yearGoes 45 = .ok (.istore_n 2, 1) := by decide +kernel
theorem dX12_yearGoes_46 : decode cX12_yearGoes 46 = .ok (.iload_n 2, 1) := by decide +kernel
theorem dX12_yearGoes_47 : decode cX12_yearGoes 47 = .ok (.aload_n 0, 1) := by decide +kernel
theorem dX12_yearGoes_48 : decode cX12_yearGoes 48 = .ok (.getfield 267, 3) := by decide +kernel
theorem dX12_yearGoes_51 : decode cX12_yearGoes 51 = .ok (.if_icmp .ge 37, 3) := by decide +kernel
theorem dX12_yearGoes_54 : decode cX12_yearGoes 54 = .ok (.aload_n 0, 1) := by decide +kernel
theorem dX12_yearGoes_55 : decode cX12_yearGoes 55 = .ok (.getfield 420, 3) := by decide +kernel
theorem dX12_yearGoes_58 : decode cX12_yearGoes 58 = .ok (.ifCond .ne 30, 3) := by decide +kernel
theorem dX12_yearGoes_61 : decode cX12_yearGoes 61 = .ok (.aload_n 0, 1) := by decide +kernel
theorem dX12_yearGoes_62 : decode cX12_yearGoes 62 = .ok (.getfield 69, 3) := by decide +kernel
theorem dX12_yearGoes_65 : decode cX12_yearGoes 65 = .ok (.iload_n 2, 1) := by decide +kernel
theorem dX12_yearGoes_66 : decode cX12_yearGoes 66 = .ok (.iaload, 1) := by decide +kernel
theorem dX12_yearGoes_67 : decode cX12_yearGoes 67 = .ok (.aload_n 0, 1) := by decide +kernel
theorem dX12_yearGoes_68 : decode cX12_yearGoes 68 = .ok (.getfield 133, 3) := by decide +kernel
theorem dX12_yearGoes_71 : decode cX12_yearGoes 71 = .ok (.iload_n 1, 1) := by decide +kernel
theorem dX12_yearGoes_72 : decode cX12_yearGoes 72 = .ok (.iaload, 1) := by decide +kernel
theorem dX12_yearGoes_73 : decode cX12_yearGoes 73 = .ok (.if_icmp .ne 9, 3) := by decide +kernel
theorem dX12_yearGoes_76 : decode cX12_yearGoes 76 = .ok (.aload_n 0, 1) := by decide +kernel
theorem dX12_yearGoes_77 : decode cX12_yearGoes 77 = .ok (.iload_n 1, 1) := by decide +kernel
theorem dX12_yearGoes_78 : decode cX12_yearGoes 78 = .ok (.iload_n 2, 1) := by decide +kernel
theorem dX12_yearGoes_79 : decode cX12_yearGoes 79 = .ok (.invokevirtual 480, 3) := by decide +kernel
theorem dX12_yearGoes_82 : decode cX12_yearGoes 82 = .ok (.iinc 2 1, 3) := by decide +kernel
theorem dX12_yearGoes_85 : decode cX12_yearGoes 85 = .ok (.goto (-39), 3) := by decide +kernel
theorem dX12_yearGoes_88 : decode cX12_yearGoes 88 = .ok (.iconst 0, 1) := by decide +kernel
theorem dX12_yearGoes_89 : decode cX12_yearGoes 89 = .ok (.istore_n 2, 1) := by decide +kernel
theorem dX12_yearGoes_90 : decode cX12_yearGoes 90 = .ok (.iload_n 2, 1) := by decide +kernel
theorem dX12_yearGoes_91 : decode cX12_yearGoes 91 = .ok (.aload_n 0, 1) := by decide +kernel
theorem dX12_yearGoes_92 : decode cX12_yearGoes 92 = .ok (.getfield 261, 3) := by decide +kernel
theorem dX12_yearGoes_95 : decode cX12_yearGoes 95 = .ok (.if_icmp .ge 15, 3) := by decide +kernel
theorem dX12_yearGoes_98 : decode cX12_yearGoes 98 = .ok (.aload_n 0, 1) := by decide +kernel
theorem dX12_yearGoes_99 : decode cX12_yearGoes 99 = .ok (.iload_n 1, 1) := by decide +kernel
theorem dX12_yearGoes_100 : decode cX12_yearGoes 100 = .ok (.iload_n 2, 1) := by decide +kernel
theorem dX12_yearGoes_101 : decode cX12_yearGoes 101 = .ok (.invokevirtual 483, 3) := by decide +kernel
theorem dX12_yearGoes_104 : decode cX12_yearGoes 104 = .ok (.iinc 2 1, 3) := by decide +kernel
theorem dX12_yearGoes_107 : decode cX12_yearGoes 107 = .ok (.goto (-17), 3) := by decide +kernel
theorem dX12_yearGoes_110 : decode cX12_yearGoes 110 = .ok (.aload_n 0, 1) := by decide +kernel
theorem dX12_yearGoes_111 : decode cX12_yearGoes 111 = .ok (.invokevirtual 486, 3) := by decide +kernel
theorem dX12_yearGoes_114 : decode cX12_yearGoes 114 = .ok (.istore_n 2, 1) := by decide +kernel
theorem dX12_yearGoes_115 : decode cX12_yearGoes 115 = .ok (.iconst 0, 1) := by decide +kernel
theorem dX12_yearGoes_116 : decode cX12_yearGoes 116 = .ok (.istore_n 3, 1) := by decide +kernel
theorem dX12_yearGoes_117 : decode cX12_yearGoes 117 = .ok (.iload_n 3, 1) := by decide +kernel
theorem dX12_yearGoes_118 : decode cX12_yearGoes 118 = .ok (.aload_n 0, 1) := by decide +kernel
theorem dX12_yearGoes_119 : decode cX12_yearGoes 119 = .ok (.getfield 258, 3) := by decide +kernel
theorem dX12_yearGoes_122 : decode cX12_yearGoes 122 = .ok (.if_icmp .ge 71, 3) := by decide +kernel
theorem dX12_yearGoes_125 : decode cX12_yearGoes 125 = .ok (.iconst 0, 1) := by decide +kernel
theorem dX12_yearGoes_126 : decode cX12_yearGoes 126 = .ok (.istore 4, 2) := by decide +kernel
theorem dX12_yearGoes_128 : decode cX12_yearGoes 128 = .ok (.iload 4, 2) := by decide +kernel
theorem dX12_yearGoes_130 : decode cX12_yearGoes 130 = .ok (.bipush 8, 2) := by decide +kernel
theorem dX12_yearGoes_132 : decode cX12_yearGoes 132 = .ok (.if_icmp .ge 55, 3) := by decide +kernel
theorem dX12_yearGoes_135 : decode cX12_yearGoes 135 = .ok (.bipush 8, 2) := by decide +kernel
theorem dX12_yearGoes_137 : decode cX12_yearGoes 137 = .ok (.bipush 6, 2) := by decide +kernel
theorem dX12_yearGoes_139 : decode cX12_yearGoes 139 = .ok (.iload_n 1, 1) := by decide +kernel
theorem dX12_yearGoes_140 : decode cX12_yearGoes 140 = .ok (.imul, 1) := by decide +kernel
theorem dX12_yearGoes_141 : decode cX12_yearGoes 141 = .ok (.iload_n 3, 1) := by decide +kernel
theorem dX12_yearGoes_142 : decode cX12_yearGoes 142 = .ok (.iadd, 1) := by decide +kernel
theorem dX12_yearGoes_143 : decode cX12_yearGoes 143 = .ok (.imul, 1) := by decide +kernel
theorem dX12_yearGoes_144 : decode cX12_yearGoes 144 = .ok (.iload 4, 2) := by decide +kernel
theorem dX12_yearGoes_146 : decode cX12_yearGoes 146 = .ok (.iadd, 1) := by decide +kernel
theorem dX12_yearGoes_147 : decode cX12_yearGoes 147 = .ok (.istore 5, 2) := by decide +kernel
theorem dX12_yearGoes_149 : decode cX12_yearGoes 149 = .ok (.aload_n 0, 1) := by decide +kernel
theorem dX12_yearGoes_150 : decode cX12_yearGoes 150 = .ok (.getfield 106, 3) := by decide +kernel
theorem dX12_yearGoes_153 : decode cX12_yearGoes 153 = .ok (.iload 5, 2) := by decide +kernel
theorem dX12_yearGoes_155 : decode cX12_yearGoes 155 = .ok (.dup2, 1) := by decide +kernel
theorem dX12_yearGoes_156 : decode cX12_yearGoes 156 = .ok (.iaload, 1) := by decide +kernel
theorem dX12_yearGoes_157 : decode cX12_yearGoes 157 = .ok (.iload_n 2, 1) := by decide +kernel
theorem dX12_yearGoes_158 : decode cX12_yearGoes 158 = .ok (.ifCond .eq 20, 3) := by decide +kernel
theorem dX12_yearGoes_161 : decode cX12_yearGoes 161 = .ok (.aload_n 0, 1) := by decide +kernel
theorem dX12_yearGoes_162 : decode cX12_yearGoes 162 = .ok (.getfield 106, 3) := by decide +kernel
theorem dX12_yearGoes_165 : decode cX12_yearGoes 165 = .ok (.iload 5, 2) := by decide +kernel
theorem dX12_yearGoes_167 : decode cX12_yearGoes 167 = .ok (.iaload, 1) := by decide +kernel
theorem dX12_yearGoes_168 : decode cX12_yearGoes 168 = .ok (.sipush 999, 3) := by decide +kernel
theorem dX12_yearGoes_171 : decode cX12_yearGoes 171 = .ok (.if_icmp .ge 7, 3) := by decide +kernel
theorem dX12_yearGoes_174 : decode cX12_yearGoes 174 = .ok (.iconst 1, 1) := by decide +kernel
theorem dX12_yearGoes_175 : decode cX12_yearGoes 175 = .ok (.goto 4, 3) := by decide +kernel
theorem dX12_yearGoes_178 : decode cX12_yearGoes 178 = .ok (.iconst 0, 1) := by decide +kernel
theorem dX12_yearGoes_179 : decode cX12_yearGoes 179 = .ok (.iadd, 1) := by decide +kernel
theorem dX12_yearGoes_180 : decode cX12_yearGoes 180 = .ok (.iastore, 1) := by decide +kernel
theorem dX12_yearGoes_181 : decode cX12_yearGoes 181 = .ok (.iinc 4 1, 3) := by decide +kernel
theorem dX12_yearGoes_184 : decode cX12_yearGoes 184 = .ok (.goto (-56), 3) := by decide +kernel
theorem dX12_yearGoes_187 : decode cX12_yearGoes 187 = .ok (.iinc 3 1, 3) := by decide +kernel
theorem dX12_yearGoes_190 : decode cX12_yearGoes 190 = .ok (.goto (-73), 3) := by decide +kernel
theorem dX12_yearGoes_193 : decode cX12_yearGoes 193 = .ok (.iconst 0, 1) := by decide +kernel
theorem dX12_yearGoes_194 : decode cX12_yearGoes 194 = .ok (.istore_n 3, 1) := by decide +kernel
theorem dX12_yearGoes_195 : decode cX12_yearGoes 195 = .ok (.iconst 0, 1) := by decide +kernel
theorem dX12_yearGoes_196 : decode cX12_yearGoes 196 = .ok (.istore 4, 2) := by decide +kernel
theorem dX12_yearGoes_198 : decode cX12_yearGoes 198 = .ok (.iload 4, 2) := by decide +kernel
theorem dX12_yearGoes_200 : decode cX12_yearGoes 200 = .ok (.aload_n 0, 1) := by decide +kernel
theorem dX12_yearGoes_201 : decode cX12_yearGoes 201 = .ok (.getfield 270, 3) := by decide +kernel
theorem dX12_yearGoes_204 : decode cX12_yearGoes 204 = .ok (.if_icmp .ge 35, 3) := by decide +kernel
theorem dX12_yearGoes_207 : decode cX12_yearGoes 207 = .ok (.iload_n 3, 1) := by decide +kernel
theorem dX12_yearGoes_208 : decode cX12_yearGoes 208 = .ok (.ifCond .ne 19, 3) := by decide +kernel
theorem dX12_yearGoes_211 : decode cX12_yearGoes 211 = .ok (.aload_n 0, 1) := by decide +kernel
theorem dX12_yearGoes_212 : decode cX12_yearGoes 212 = .ok (.getfield 72, 3) := by decide +kernel
theorem dX12_yearGoes_215 : decode cX12_yearGoes 215 = .ok (.iload 4, 2) := by decide +kernel
theorem dX12_yearGoes_217 : decode cX12_yearGoes 217 = .ok (.iaload, 1) := by decide +kernel
theorem dX12_yearGoes_218 : decode cX12_yearGoes 218 = .ok (.aload_n 0, 1) := by decide +kernel
theorem dX12_yearGoes_219 : decode cX12_yearGoes 219 = .ok (.getfield 133, 3) := by decide +kernel
theorem dX12_yearGoes_222 : decode cX12_yearGoes 222 = .ok (.iload_n 1, 1) := by decide +kernel
theorem dX12_yearGoes_223 : decode cX12_yearGoes 223 = .ok (.iaload, 1) := by decide +kernel
theorem dX12_yearGoes_224 : decode cX12_yearGoes 224 = .ok (.if_icmp .ne 7, 3) := by decide +kernel
theorem dX12_yearGoes_227 : decode cX12_yearGoes 227 = .ok (.iconst 1, 1) := by decide +kernel
theorem dX12_yearGoes_228 : decode cX12_yearGoes 228 = .ok (.goto 4, 3) := by decide +kernel
theorem dX12_yearGoes_231 : decode cX12_yearGoes 231 = .ok (.iconst 0, 1) := by decide +kernel
theorem dX12_yearGoes_232 : decode cX12_yearGoes 232 = .ok (.istore_n 3, 1) := by decide +kernel
theorem dX12_yearGoes_233 : decode cX12_yearGoes 233 = .ok (.iinc 4 1, 3) := by decide +kernel
theorem dX12_yearGoes_236 : decode cX12_yearGoes 236 = .ok (.goto (-38), 3) := by decide +kernel
theorem dX12_yearGoes_239 : decode cX12_yearGoes 239 = .ok (.iconst 0, 1) := by decide +kernel
theorem dX12_yearGoes_240 : decode cX12_yearGoes 240 = .ok (.istore 4, 2) := by decide +kernel
theorem dX12_yearGoes_242 : decode cX12_yearGoes 242 = .ok (.iload 4, 2) := by decide +kernel
theorem dX12_yearGoes_244 : decode cX12_yearGoes 244 = .ok (.aload_n 0, 1) := by decide +kernel
theorem dX12_yearGoes_245 : decode cX12_yearGoes 245 = .ok (.getfield 258, 3) := by decide +kernel
theorem dX12_yearGoes_248 : decode cX12_yearGoes 248 = .ok (.if_icmp .ge 20, 3) := by decide +kernel
theorem dX12_yearGoes_251 : decode cX12_yearGoes 251 = .ok (.iload_n 3, 1) := by decide +kernel
theorem dX12_yearGoes_252 : decode cX12_yearGoes 252 = .ok (.ifCond .eq 16, 3) := by decide +kernel
theorem dX12_yearGoes_255 : decode cX12_yearGoes 255 = .ok (.aload_n 0, 1) := by decide +kernel
theorem dX12_yearGoes_256 : decode cX12_yearGoes 256 = .ok (.iload_n 1, 1) := by decide +kernel
theorem dX12_yearGoes_257 : decode cX12_yearGoes 257 = .ok (.iload 4, 2) := by decide +kernel
theorem dX12_yearGoes_259 : decode cX12_yearGoes 259 = .ok (.invokevirtual 407, 3) := by decide +kernel
theorem dX12_yearGoes_262 : decode cX12_yearGoes 262 = .ok (.iinc 4 1, 3) := by decide +kernel
theorem dX12_yearGoes_265 : decode cX12_yearGoes 265 = .ok (.goto (-23), 3) := by decide +kernel
theorem dX12_yearGoes_268 : decode cX12_yearGoes 268 = .ok (.aload_n 0, 1) := by decide +kernel
theorem dX12_yearGoes_269 : decode cX12_yearGoes 269 = .ok (.getfield 133, 3) := by decide +kernel
theorem dX12_yearGoes_272 : decode cX12_yearGoes 272 = .ok (.iload_n 1, 1) := by decide +kernel
theorem dX12_yearGoes_273 : decode cX12_yearGoes 273 = .ok (.dup2, 1) := by decide +kernel
theorem dX12_yearGoes_274 : decode cX12_yearGoes 274 = .ok (.iaload, 1) := by decide +kernel
theorem dX12_yearGoes_275 : decode cX12_yearGoes 275 = .ok (.iconst 1, 1) := by decide +kernel
theorem dX12_yearGoes_276 : decode cX12_yearGoes 276 = .ok (.iadd, 1) := by decide +kernel
theorem dX12_yearGoes_277 : decode cX12_yearGoes 277 = .ok (.iastore, 1) := by decide +kernel
theorem dX12_yearGoes_278 : decode cX12_yearGoes 278 = .ok (.return_, 1) := by decide +kernel
theorem dX12_goMany_0 : decode cX12_goMany 0 = .ok (.iconst 0, 1) := by decide +kernel
theorem dX12_goMany_1 : decode cX12_goMany 1 = .ok (.istore_n 2, 1) := by decide +kernel
theorem dX12_goMany_2 : decode cX12_goMany 2 = .ok (.iload_n 2, 1) := by decide +kernel
theorem dX12_goMany_3 : decode cX12_goMany 3 = .ok (.iload_n 1, 1) := by decide +kernel
theorem dX12_goMany_4 : decode cX12_goMany 4 = .ok (.if_icmp .ge 14, 3) := by decide +kernel
theorem dX12_goMany_7 : decode cX12_goMany 7 = .ok (.aload_n 0, 1) := by decide +kernel
theorem dX12_goMany_8 : decode cX12_goMany 8 = .ok (.iconst 1, 1) := by decide +kernel
theorem dX12_goMany_9 : decode cX12_goMany 9 = .ok (.invokevirtual 489, 3) := by decide +kernel
theorem dX12_goMany_12 : decode cX12_goMany 12 = .ok (.iinc 2 1, 3) := by decide +kernel
theorem dX12_goMany_15 : decode cX12_goMany 15 = .ok (.goto (-13), 3) := by decide +kernel
theorem dX12_goMany_18 : decode cX12_goMany 18 = .ok (.return_, 1) := by decide +kernel
theorem dX12_cornsAll_0 : decode cX12_cornsAll 0 = .ok (.iconst 0, 1) := by decide +kernel
theorem dX12_cornsAll_1 : decode cX12_cornsAll 1 = .ok (.istore_n 2, 1) := by decide +kernel
theorem dX12_cornsAll_2 : decode cX12_cornsAll 2 = .ok (.iconst 0, 1) := by decide +kernel
theorem dX12_cornsAll_3 : decode cX12_cornsAll 3 = .ok (.istore_n 3, 1) := by decide +kernel
theorem dX12_cornsAll_4 : decode cX12_cornsAll 4 = .ok (.iload_n 3, 1) := by decide +kernel
theorem dX12_cornsAll_5 : decode cX12_cornsAll 5 = .ok (.aload_n 0, 1) := by decide +kernel
theorem dX12_cornsAll_6 : decode cX12_cornsAll 6 = .ok (.getfield 261, 3) := by decide +kernel
theorem dX12_cornsAll_9 : decode cX12_cornsAll 9 = .ok (.if_icmp .ge 23, 3) := by decide +kernel
theorem dX12_cornsAll_12 : decode cX12_cornsAll 12 = .ok (.iload_n 2, 1) := by decide +kernel
theorem dX12_cornsAll_13 : decode cX12_cornsAll 13 = .ok (.aload_n 0, 1) := by decide +kernel
theorem dX12_cornsAll_14 : decode cX12_cornsAll 14 = .ok (.getfield 124, 3) := by decide +kernel
theorem dX12_cornsAll_17 : decode cX12_cornsAll 17 = .ok (.bipush 8, 2) := by decide +kernel
theorem dX12_cornsAll_19 : decode cX12_cornsAll 19 = .ok (.iload_n 1, 1) := by decide +kernel
theorem dX12_cornsAll_20 : decode cX12_cornsAll 20 = .ok (.imul, 1) := by decide +kernel
theorem dX12_cornsAll_21 : decode cX12_cornsAll 21 = .ok (.iload_n 3, 1) := by decide +kernel
theorem dX12_cornsAll_22 : decode cX12_cornsAll 22 = .ok (.iadd, 1) := by decide +kernel
theorem dX12_cornsAll_23 : decode cX12_cornsAll 23 = .ok (.iaload, 1) := by decide +kernel
theorem dX12_cornsAll_24 : decode cX12_cornsAll 24 = .ok (.iadd, 1) := by decide +kernel
theorem dX12_cornsAll_25 : decode cX12_cornsAll 25 = .ok (.istore_n 2, 1) := by decide +kernel
theorem dX12_cornsAll_26 : decode cX12_cornsAll 26 = .ok (.iinc 3 1, 3) := by decide +kernel
theorem dX12_cornsAll_29 : decode cX12_cornsAll 29 = .ok (.goto (-25), 3) := by decide +kernel
theorem dX12_cornsAll_32 : decode cX12_cornsAll 32 = .ok (.iload_n 2, 1) := by decide +kernel
theorem dX12_cornsAll_33 : decode cX12_cornsAll 33 = .ok (.ireturn, 1) := by decide +kernel
theorem dX12_wedMany_0 : decode cX12_wedMany 0 = .ok (.iconst 0, 1) := by decide +kernel
theorem dX12_wedMany_1 : decode cX12_wedMany 1 = .ok (.istore_n 2, 1) := by decide +kernel
theorem dX12_wedMany_2 : decode cX12_wedMany 2 = .ok (.iconst 0, 1) := by decide +kernel
theorem dX12_wedMany_3 : decode cX12_wedMany 3 = .ok (.istore_n 3, 1) := by decide +kernel
theorem dX12_wedMany_4 : decode cX12_wedMany 4 = .ok (.iload_n 3, 1) := by decide +kernel
theorem dX12_wedMany_5 : decode cX12_wedMany 5 = .ok (.aload_n 0, 1) := by decide +kernel
theorem dX12_wedMany_6 : decode cX12_wedMany 6 = .ok (.getfield 261, 3) := by decide +kernel
theorem dX12_wedMany_9 : decode cX12_wedMany 9 = .ok (.if_icmp .ge 31, 3) := by decide +kernel
theorem dX12_wedMany_12 : decode cX12_wedMany 12 = .ok (.iload_n 2, 1) := by decide +kernel
theorem dX12_wedMany_13 : decode cX12_wedMany 13 = .ok (.aload_n 0, 1) := by decide +kernel
theorem dX12_wedMany_14 : decode cX12_wedMany 14 = .ok (.getfield 127, 3) := by decide +kernel
theorem dX12_wedMany_17 : decode cX12_wedMany 17 = .ok (.bipush 8, 2) := by decide +kernel
theorem dX12_wedMany_19 : decode cX12_wedMany 19 = .ok (.iload_n 1, 1) := by decide +kernel
theorem dX12_wedMany_20 : decode cX12_wedMany 20 = .ok (.imul, 1) := by decide +kernel
theorem dX12_wedMany_21 : decode cX12_wedMany 21 = .ok (.iload_n 3, 1) := by decide +kernel
theorem dX12_wedMany_22 : decode cX12_wedMany 22 = .ok (.iadd, 1) := by decide +kernel
theorem dX12_wedMany_23 : decode cX12_wedMany 23 = .ok (.baload, 1) := by decide +kernel
theorem dX12_wedMany_24 : decode cX12_wedMany 24 = .ok (.ifCond .eq 7, 3) := by decide +kernel
theorem dX12_wedMany_27 : decode cX12_wedMany 27 = .ok (.iconst 1, 1) := by decide +kernel
theorem dX12_wedMany_28 : decode cX12_wedMany 28 = .ok (.goto 4, 3) := by decide +kernel
theorem dX12_wedMany_31 : decode cX12_wedMany 31 = .ok (.iconst 0, 1) := by decide +kernel
theorem dX12_wedMany_32 : decode cX12_wedMany 32 = .ok (.iadd, 1) := by decide +kernel
theorem dX12_wedMany_33 : decode cX12_wedMany 33 = .ok (.istore_n 2, 1) := by decide +kernel
theorem dX12_wedMany_34 : decode cX12_wedMany 34 = .ok (.iinc 3 1, 3) := by decide +kernel
theorem dX12_wedMany_37 : decode cX12_wedMany 37 = .ok (.goto (-33), 3) := by decide +kernel
theorem dX12_wedMany_40 : decode cX12_wedMany 40 = .ok (.iload_n 2, 1) := by decide +kernel
theorem dX12_wedMany_41 : decode cX12_wedMany 41 = .ok (.ireturn, 1) := by decide +kernel
theorem dX12_sumOf_0 : decode cX12_sumOf 0 = .ok (.iconst 0, 1) := by decide +kernel
theorem dX12_sumOf_1 : decode cX12_sumOf 1 = .ok (.istore_n 3, 1) := by decide +kernel
theorem dX12_sumOf_2 : decode cX12_sumOf 2 = .ok (.iconst 0, 1) := by decide +kernel
theorem dX12_sumOf_3 : decode cX12_sumOf 3 = .ok (.istore 4, 2) := by decide +kernel
theorem dX12_sumOf_5 : decode cX12_sumOf 5 = .ok (.iload 4, 2) := by decide +kernel
theorem dX12_sumOf_7 : decode cX12_sumOf 7 = .ok (.bipush 8, 2) := by decide +kernel
theorem dX12_sumOf_9 : decode cX12_sumOf 9 = .ok (.if_icmp .ge 20, 3) := by decide +kernel
theorem dX12_sumOf_12 : decode cX12_sumOf 12 = .ok (.iload_n 3, 1) := by decide +kernel
theorem dX12_sumOf_13 : decode cX12_sumOf 13 = .ok (.aload_n 0, 1) := by decide +kernel
theorem dX12_sumOf_14 : decode cX12_sumOf 14 = .ok (.iload_n 1, 1) := by decide +kernel
theorem dX12_sumOf_15 : decode cX12_sumOf 15 = .ok (.iload_n 2, 1) := by decide +kernel
theorem dX12_sumOf_16 : decode cX12_sumOf 16 = .ok (.iload 4, 2) := by decide +kernel
theorem dX12_sumOf_18 : decode cX12_sumOf 18 = .ok (.invokevirtual 440, 3) := by decide +kernel
theorem dX12_sumOf_21 : decode cX12_sumOf 21 = .ok (.iadd, 1) := by decide +kernel
theorem dX12_sumOf_22 : decode cX12_sumOf 22 = .ok (.istore_n 3, 1) := by decide +kernel
theorem dX12_sumOf_23 : decode cX12_sumOf 23 = .ok (.iinc 4 1, 3) := by decide +kernel
theorem dX12_sumOf_26 : decode cX12_sumOf 26 = .ok (.goto (-21), 3) := by decide +kernel
theorem dX12_sumOf_29 : decode cX12_sumOf 29 = .ok (.iload_n 3, 1) := by decide +kernel
theorem dX12_sumOf_30 : decode cX12_sumOf 30 = .ok (.ireturn, 1) := by decide +kernel
theorem dX12_fails_0 : decode cX12_fails 0 = .ok (.aload_n 0, 1) := by decide +kernel
theorem dX12_fails_1 : decode cX12_fails 1 = .ok (.iload_n 1, 1) := by decide +kernel
theorem dX12_fails_2 : decode cX12_fails 2 = .ok (.putfield 175, 3) := by decide +kernel
theorem dX12_fails_5 : decode cX12_fails 5 = .ok (.iconst 0, 1) := by decide +kernel
theorem dX12_fails_6 : decode cX12_fails 6 = .ok (.ireturn, 1) := by decide +kernel
theorem dX12_man_0 : decode cX12_man 0 = .ok (.aload_n 0, 1) := by decide +kernel
theorem dX12_man_1 : decode cX12_man 1 = .ok (.iconst 0, 1) := by decide +kernel
theorem dX12_man_2 : decode cX12_man 2 = .ok (.putfield 175, 3) := by decide +kernel
theorem dX12_man_5 : decode cX12_man 5 = .ok (.aload_n 0, 1) := by decide +kernel
theorem dX12_man_6 : decode cX12_man 6 = .ok (.iload_n 1, 1) := by decide +kernel
theorem dX12_man_7 : decode cX12_man 7 = .ok (.invokevirtual 492, 3) := by decide +kernel
theorem dX12_man_10 : decode cX12_man 10 = .ok (.ifCond .ne 9, 3) := by decide +kernel
theorem dX12_man_13 : decode cX12_man 13 = .ok (.aload_n 0, 1) := by decide +kernel
theorem dX12_man_14 : decode cX12_man 14 = .ok (.iconst 1, 1) := by decide +kernel
theorem dX12_man_15 : decode cX12_man 15 = .ok (.invokevirtual 495, 3) := by decide +kernel
theorem dX12_man_18 : decode cX12_man 18 = .ok (.ireturn, 1) := by decide +kernel
theorem dX12_man_19 : decode cX12_man 19 = .ok (.iload_n 2, 1) := by decide +kernel
theorem dX12_man_20 : decode cX12_man 20 = .ok (.tableswitch 101 0 6 #[44, 51, 58, 65, 72, 79, 94], 44) := by decide +kernel
theorem dX12_man_64 : decode cX12_man 64 = .ok (.aload_n 0, 1) := by decide +kernel
theorem dX12_man_65 : decode cX12_man 65 = .ok (.getfield 118, 3) := by decide +kernel
theorem dX12_man_68 : decode cX12_man 68 = .ok (.iload_n 1, 1) := by decide +kernel
theorem dX12_man_69 : decode cX12_man 69 = .ok (.iaload, 1) := by decide +kernel
theorem dX12_man_70 : decode cX12_man 70 = .ok (.ireturn, 1) := by decide +kernel
theorem dX12_man_71 : decode cX12_man 71 = .ok (.aload_n 0, 1) := by decide +kernel
theorem dX12_man_72 : decode cX12_man 72 = .ok (.getfield 39, 3) := by decide +kernel
theorem dX12_man_75 : decode cX12_man 75 = .ok (.iload_n 1, 1) := by decide +kernel
theorem dX12_man_76 : decode cX12_man 76 = .ok (.iaload, 1) := by decide +kernel
theorem dX12_man_77 : decode cX12_man 77 = .ok (.ireturn, 1) := by decide +kernel
theorem dX12_man_78 : decode cX12_man 78 = .ok (.aload_n 0, 1) := by decide +kernel
theorem dX12_man_79 : decode cX12_man 79 = .ok (.getfield 42, 3) := by decide +kernel
theorem dX12_man_82 : decode cX12_man 82 = .ok (.iload_n 1, 1) := by decide +kernel
theorem dX12_man_83 : decode cX12_man 83 = .ok (.iaload, 1) := by decide +kernel
theorem dX12_man_84 : decode cX12_man 84 = .ok (.ireturn, 1) := by decide +kernel
theorem dX12_man_85 : decode cX12_man 85 = .ok (.aload_n 0, 1) := by decide +kernel
theorem dX12_man_86 : decode cX12_man 86 = .ok (.getfield 121, 3) := by decide +kernel
theorem dX12_man_89 : decode cX12_man 89 = .ok (.iload_n 1, 1) := by decide +kernel
theorem dX12_man_90 : decode cX12_man 90 = .ok (.iaload, 1) := by decide +kernel
theorem dX12_man_91 : decode cX12_man 91 = .ok (.ireturn, 1) := by decide +kernel
theorem dX12_man_92 : decode cX12_man 92 = .ok (.aload_n 0, 1) := by decide +kernel
theorem dX12_man_93 : decode cX12_man 93 = .ok (.getfield 124, 3) := by decide +kernel
theorem dX12_man_96 : decode cX12_man 96 = .ok (.iload_n 1, 1) := by decide +kernel
theorem dX12_man_97 : decode cX12_man 97 = .ok (.iaload, 1) := by decide +kernel
theorem dX12_man_98 : decode cX12_man 98 = .ok (.ireturn, 1) := by decide +kernel
theorem dX12_man_99 : decode cX12_man 99 = .ok (.aload_n 0, 1) := by decide +kernel
theorem dX12_man_100 : decode cX12_man 100 = .ok (.getfield 127, 3) := by decide +kernel
theorem dX12_man_103 : decode cX12_man 103 = .ok (.iload_n 1, 1) := by decide +kernel
theorem dX12_man_104 : decode cX12_man 104 = .ok (.baload, 1) := by decide +kernel
theorem dX12_man_105 : decode cX12_man 105 = .ok (.ifCond .eq 7, 3) := by decide +kernel
theorem dX12_man_108 : decode cX12_man 108 = .ok (.iconst 1, 1) := by decide +kernel
theorem dX12_man_109 : decode cX12_man 109 = .ok (.goto 4, 3) := by decide +kernel
theorem dX12_man_112 : decode cX12_man 112 = .ok (.iconst 0, 1) := by decide +kernel
theorem dX12_man_113 : decode cX12_man 113 = .ok (.ireturn, 1) := by decide +kernel
theorem dX12_man_114 : decode cX12_man 114 = .ok (.aload_n 0, 1) := by decide +kernel
theorem dX12_man_115 : decode cX12_man 115 = .ok (.iconst 0, 1) := by decide +kernel
theorem dX12_man_116 : decode cX12_man 116 = .ok (.iload_n 1, 1) := by decide +kernel
theorem dX12_man_117 : decode cX12_man 117 = .ok (.invokevirtual 443, 3) := by decide +kernel
theorem dX12_man_120 : decode cX12_man 120 = .ok (.ireturn, 1) := by decide +kernel
theorem dX12_man_121 : decode cX12_man 121 = .ok (.aload_n 0, 1) := by decide +kernel
theorem dX12_man_122 : decode cX12_man 122 = .ok (.iconst 2, 1) := by decide +kernel
theorem dX12_man_123 : decode cX12_man 123 = .ok (.invokevirtual 495, 3) := by decide +kernel
theorem dX12_man_126 : decode cX12_man 126 = .ok (.ireturn, 1) := by decide +kernel
theorem dX12_last_0 : decode cX12_last 0 = .ok (.aload_n 0, 1) := by decide +kernel
theorem dX12_last_1 : decode cX12_last 1 = .ok (.iconst 0, 1) := by decide +kernel
theorem dX12_last_2 : decode cX12_last 2 = .ok (.putfield 175, 3) := by decide +kernel
theorem dX12_last_5 : decode cX12_last 5 = .ok (.aload_n 0, 1) := by decide +kernel
theorem dX12_last_6 : decode cX12_last 6 = .ok (.iload_n 1, 1) := by decide +kernel
theorem dX12_last_7 : decode cX12_last 7 = .ok (.invokevirtual 498, 3) := by decide +kernel
theorem dX12_last_10 : decode cX12_last 10 = .ok (.ifCond .eq 23, 3) := by decide +kernel
theorem dX12_last_13 : decode cX12_last 13 = .ok (.iload_n 2, 1) := by decide +kernel
theorem dX12_last_14 : decode cX12_last 14 = .ok (.iconst 0, 1) := by decide +kernel
theorem dX12_last_15 : decode cX12_last 15 = .ok (.bipush 7, 2) := by decide +kernel
theorem dX12_last_17 : decode cX12_last 17 = .ok (.invokestatic 220, 3) := by decide +kernel
theorem dX12_last_20 : decode cX12_last 20 = .ok (.ifCond .eq 13, 3) := by decide +kernel
theorem dX12_last_23 : decode cX12_last 23 = .ok (.aload_n 0, 1) := by decide +kernel
theorem dX12_last_24 : decode cX12_last 24 = .ok (.iconst 0, 1) := by decide +kernel
theorem dX12_last_25 : decode cX12_last 25 = .ok (.iload_n 1, 1) := by decide +kernel
theorem dX12_last_26 : decode cX12_last 26 = .ok (.iload_n 2, 1) := by decide +kernel
theorem dX12_last_27 : decode cX12_last 27 = .ok (.invokevirtual 440, 3) := by decide +kernel
theorem dX12_last_30 : decode cX12_last 30 = .ok (.goto 6, 3) := by decide +kernel
theorem dX12_last_33 : decode cX12_last 33 = .ok (.ldc_w 501, 3) := by decide +kernel
theorem dX12_last_36 : decode cX12_last 36 = .ok (.ireturn, 1) := by decide +kernel
theorem dX12_layer_0 : decode cX12_layer 0 = .ok (.aload_n 0, 1) := by decide +kernel
theorem dX12_layer_1 : decode cX12_layer 1 = .ok (.iconst 0, 1) := by decide +kernel
theorem dX12_layer_2 : decode cX12_layer 2 = .ok (.putfield 175, 3) := by decide +kernel
theorem dX12_layer_5 : decode cX12_layer 5 = .ok (.aload_n 0, 1) := by decide +kernel
theorem dX12_layer_6 : decode cX12_layer 6 = .ok (.iload_n 1, 1) := by decide +kernel
theorem dX12_layer_7 : decode cX12_layer 7 = .ok (.invokevirtual 498, 3) := by decide +kernel
theorem dX12_layer_10 : decode cX12_layer 10 = .ok (.ifCond .eq 12, 3) := by decide +kernel
theorem dX12_layer_13 : decode cX12_layer 13 = .ok (.iload_n 3, 1) := by decide +kernel
theorem dX12_layer_14 : decode cX12_layer 14 = .ok (.iconst 0, 1) := by decide +kernel
theorem dX12_layer_15 : decode cX12_layer 15 = .ok (.iconst 2, 1) := by decide +kernel
theorem dX12_layer_16 : decode cX12_layer 16 = .ok (.invokestatic 220, 3) := by decide +kernel
theorem dX12_layer_19 : decode cX12_layer 19 = .ok (.ifCond .ne 7, 3) := by decide +kernel
theorem dX12_layer_22 : decode cX12_layer 22 = .ok (.ldc_w 501, 3) := by decide +kernel
theorem dX12_layer_25 : decode cX12_layer 25 = .ok (.ireturn, 1) := by decide +kernel
theorem dX12_layer_26 : decode cX12_layer 26 = .ok (.iload_n 3, 1) := by decide +kernel
theorem dX12_layer_27 : decode cX12_layer 27 = .ok (.ifCond .ne 10, 3) := by decide +kernel
theorem dX12_layer_30 : decode cX12_layer 30 = .ok (.aload_n 0, 1) := by decide +kernel
theorem dX12_layer_31 : decode cX12_layer 31 = .ok (.getfield 115, 3) := by decide +kernel
theorem dX12_layer_34 : decode cX12_layer 34 = .ok (.iload_n 1, 1) := by decide +kernel
theorem dX12_layer_35 : decode cX12_layer 35 = .ok (.iaload, 1) := by decide +kernel
theorem dX12_layer_36 : decode cX12_layer 36 = .ok (.ireturn, 1) := by decide +kernel
theorem dX12_layer_37 : decode cX12_layer 37 = .ok (.iload_n 2, 1) := by decide +kernel
theorem dX12_layer_38 : decode cX12_layer 38 = .ok (.ifCond .lt 13, 3) := by decide +kernel
theorem dX12_layer_41 : decode cX12_layer 41 = .ok (.iload_n 2, 1) := by decide +kernel
theorem dX12_layer_42 : decode cX12_layer 42 = .ok (.aload_n 0, 1) := by decide +kernel
theorem dX12_layer_43 : decode cX12_layer 43 = .ok (.getfield 115, 3) := by decide +kernel
theorem dX12_layer_46 : decode cX12_layer 46 = .ok (.iload_n 1, 1) := by decide +kernel
theorem dX12_layer_47 : decode cX12_layer 47 = .ok (.iaload, 1) := by decide +kernel
theorem dX12_layer_48 : decode cX12_layer 48 = .ok (.if_icmp .lt 7, 3) := by decide +kernel
theorem dX12_layer_51 : decode cX12_layer 51 = .ok (.ldc_w 501, 3) := by decide +kernel
theorem dX12_layer_54 : decode cX12_layer 54 = .ok (.ireturn, 1) := by decide +kernel
theorem dX12_layer_55 : decode cX12_layer 55 = .ok (.iload_n 3, 1) := by decide +kernel
theorem dX12_layer_56 : decode cX12_layer 56 = .ok (.iconst 1, 1) := by decide +kernel
theorem dX12_layer_57 : decode cX12_layer 57 = .ok (.if_icmp .ne 17, 3) := by decide +kernel
theorem dX12_layer_60 : decode cX12_layer 60 = .ok (.aload_n 0, 1) := by decide +kernel
theorem dX12_layer_61 : decode cX12_layer 61 = .ok (.getfield 109, 3) := by decide +kernel
theorem dX12_layer_64 : decode cX12_layer 64 = .ok (.bipush 12, 2) := by decide +kernel
theorem dX12_layer_66 : decode cX12_layer 66 = .ok (.iload_n 1, 1) := by decide +kernel
theorem dX12_layer_67 : decode cX12_layer 67 = .ok (.imul, 1) := by decide +kernel
theorem dX12_layer_68 : decode cX12_layer 68 = .ok (.iload_n 2, 1) := by decide +kernel
theorem dX12_layer_69 : decode cX12_layer 69 = .ok (.iadd, 1) := by decide +kernel
theorem dX12_layer_70 : decode cX12_layer 70 = .ok (.iaload, 1) := by decide +kernel
theorem dX12_layer_71 : decode cX12_layer 71 = .ok (.goto 14, 3) := by decide +kernel
theorem dX12_layer_74 : decode cX12_layer 74 = .ok (.aload_n 0, 1) := by decide +kernel
theorem dX12_layer_75 : decode cX12_layer 75 = .ok (.getfield 112, 3) := by decide +kernel
theorem dX12_layer_78 : decode cX12_layer 78 = .ok (.bipush 12, 2) := by decide +kernel
theorem dX12_layer_80 : decode cX12_layer 80 = .ok (.iload_n 1, 1) := by decide +kernel
theorem dX12_layer_81 : decode cX12_layer 81 = .ok (.imul, 1) := by decide +kernel
theorem dX12_layer_82 : decode cX12_layer 82 = .ok (.iload_n 2, 1) := by decide +kernel
theorem dX12_layer_83 : decode cX12_layer 83 = .ok (.iadd, 1) := by decide +kernel
theorem dX12_layer_84 : decode cX12_layer 84 = .ok (.iaload, 1) := by decide +kernel
theorem dX12_layer_85 : decode cX12_layer 85 = .ok (.ireturn, 1) := by decide +kernel
theorem dX12_far_0 : decode cX12_far 0 = .ok (.aload_n 0, 1) := by decide +kernel
theorem dX12_far_1 : decode cX12_far 1 = .ok (.iconst 0, 1) := by decide +kernel
theorem dX12_far_2 : decode cX12_far 2 = .ok (.putfield 175, 3) := by decide +kernel
theorem dX12_far_5 : decode cX12_far 5 = .ok (.aload_n 0, 1) := by decide +kernel
theorem dX12_far_6 : decode cX12_far 6 = .ok (.iload_n 1, 1) := by decide +kernel
theorem dX12_far_7 : decode cX12_far 7 = .ok (.invokevirtual 492, 3) := by decide +kernel
theorem dX12_far_10 : decode cX12_far 10 = .ok (.ifCond .eq 22, 3) := by decide +kernel
theorem dX12_far_13 : decode cX12_far 13 = .ok (.aload_n 0, 1) := by decide +kernel
theorem dX12_far_14 : decode cX12_far 14 = .ok (.iload_n 2, 1) := by decide +kernel
theorem dX12_far_15 : decode cX12_far 15 = .ok (.invokevirtual 498, 3) := by decide +kernel
theorem dX12_far_18 : decode cX12_far 18 = .ok (.ifCond .eq 14, 3) := by decide +kernel
theorem dX12_far_21 : decode cX12_far 21 = .ok (.aload_n 0, 1) := by decide +kernel
theorem dX12_far_22 : decode cX12_far 22 = .ok (.iconst 0, 1) := by decide +kernel
theorem dX12_far_23 : decode cX12_far 23 = .ok (.iload_n 1, 1) := by decide +kernel
theorem dX12_far_24 : decode cX12_far 24 = .ok (.iload_n 2, 1) := by decide +kernel
theorem dX12_far_25 : decode cX12_far 25 = .ok (.iconst 0, 1) := by decide +kernel
theorem dX12_far_26 : decode cX12_far 26 = .ok (.invokevirtual 502, 3) := by decide +kernel
theorem dX12_far_29 : decode cX12_far 29 = .ok (.goto 4, 3) := by decide +kernel
theorem dX12_far_32 : decode cX12_far 32 = .ok (.iconst (-1), 1) := by decide +kernel
theorem dX12_far_33 : decode cX12_far 33 = .ok (.ireturn, 1) := by decide +kernel
theorem dX12_law_0 : decode cX12_law 0 = .ok (.aload_n 0, 1) := by decide +kernel
theorem dX12_law_1 : decode cX12_law 1 = .ok (.iconst 0, 1) := by decide +kernel
theorem dX12_law_2 : decode cX12_law 2 = .ok (.putfield 175, 3) := by decide +kernel
theorem dX12_law_5 : decode cX12_law 5 = .ok (.iload_n 1, 1) := by decide +kernel
theorem dX12_law_6 : decode cX12_law 6 = .ok (.iconst 0, 1) := by decide +kernel
theorem dX12_law_7 : decode cX12_law 7 = .ok (.iconst 2, 1) := by decide +kernel
theorem dX12_law_8 : decode cX12_law 8 = .ok (.invokestatic 220, 3) := by decide +kernel
theorem dX12_law_11 : decode cX12_law 11 = .ok (.ifCond .eq 12, 3) := by decide +kernel
theorem dX12_law_14 : decode cX12_law 14 = .ok (.aload_n 0, 1) := by decide +kernel
theorem dX12_law_15 : decode cX12_law 15 = .ok (.getfield 75, 3) := by decide +kernel
theorem dX12_law_18 : decode cX12_law 18 = .ok (.iload_n 1, 1) := by decide +kernel
theorem dX12_law_19 : decode cX12_law 19 = .ok (.baload, 1) := by decide +kernel
theorem dX12_law_20 : decode cX12_law 20 = .ok (.ifCond .ne 7, 3) := by decide +kernel
theorem dX12_law_23 : decode cX12_law 23 = .ok (.ldc2_w 505, 3) := by decide +kernel
theorem dX12_law_26 : decode cX12_law 26 = .ok (.lreturn, 1) := by decide +kernel
theorem dX12_law_27 : decode cX12_law 27 = .ok (.iload_n 1, 1) := by decide +kernel
theorem dX12_law_28 : decode cX12_law 28 = .ok (.ifCond .ne 18, 3) := by decide +kernel
theorem dX12_law_31 : decode cX12_law 31 = .ok (.iload_n 2, 1) := by decide +kernel
theorem dX12_law_32 : decode cX12_law 32 = .ok (.ifCond .lt 22, 3) := by decide +kernel
theorem dX12_law_35 : decode cX12_law 35 = .ok (.iload_n 2, 1) := by decide +kernel
theorem dX12_law_36 : decode cX12_law 36 = .ok (.aload_n 0, 1) := by decide +kernel
theorem dX12_law_37 : decode cX12_law 37 = .ok (.getfield 264, 3) := by decide +kernel
theorem dX12_law_40 : decode cX12_law 40 = .ok (.if_icmp .lt 18, 3) := by decide +kernel
theorem dX12_law_43 : decode cX12_law 43 = .ok (.goto 11, 3) := by decide +kernel
theorem dX12_law_46 : decode cX12_law 46 = .ok (.aload_n 0, 1) := by decide +kernel
theorem dX12_law_47 : decode cX12_law 47 = .ok (.iload_n 2, 1) := by decide +kernel
theorem dX12_law_48 : decode cX12_law 48 = .ok (.invokevirtual 492, 3) := by decide +kernel
theorem dX12_law_51 : decode cX12_law 51 = .ok (.ifCond .ne 7, 3) := by decide +kernel
theorem dX12_law_54 : decode cX12_law 54 = .ok (.ldc2_w 505, 3) := by decide +kernel
theorem dX12_law_57 : decode cX12_law 57 = .ok (.lreturn, 1) := by decide +kernel
theorem dX12_law_58 : decode cX12_law 58 = .ok (.iload_n 1, 1) := by decide +kernel
theorem dX12_law_59 : decode cX12_law 59 = .ok (.ifCond .ne 12, 3) := by decide +kernel
theorem dX12_law_62 : decode cX12_law 62 = .ok (.aload_n 0, 1) := by decide +kernel
theorem dX12_law_63 : decode cX12_law 63 = .ok (.iconst 0, 1) := by decide +kernel
theorem dX12_law_64 : decode cX12_law 64 = .ok (.iload_n 2, 1) := by decide +kernel
theorem dX12_law_65 : decode cX12_law 65 = .ok (.invokevirtual 453, 3) := by decide +kernel
theorem dX12_law_68 : decode cX12_law 68 = .ok (.goto 9, 3) := by decide +kernel
theorem dX12_law_71 : decode cX12_law 71 = .ok (.aload_n 0, 1) := by decide +kernel
theorem dX12_law_72 : decode cX12_law 72 = .ok (.iconst 0, 1) := by decide +kernel
theorem dX12_law_73 : decode cX12_law 73 = .ok (.iload_n 2, 1) := by decide +kernel
theorem dX12_law_74 : decode cX12_law 74 = .ok (.invokevirtual 463, 3) := by decide +kernel
theorem dX12_law_77 : decode cX12_law 77 = .ok (.aload_n 0, 1) := by decide +kernel
theorem dX12_law_78 : decode cX12_law 78 = .ok (.iload_n 1, 1) := by decide +kernel
theorem dX12_law_79 : decode cX12_law 79 = .ok (.invokevirtual 450, 3) := by decide +kernel
theorem dX12_law_82 : decode cX12_law 82 = .ok (.lstore_n 3, 1) := by decide +kernel
theorem dX12_law_83 : decode cX12_law 83 = .ok (.aload_n 0, 1) := by decide +kernel
theorem dX12_law_84 : decode cX12_law 84 = .ok (.getfield 369, 3) := by decide +kernel
theorem dX12_law_87 : decode cX12_law 87 = .ok (.ifCond .eq 9, 3) := by decide +kernel
theorem dX12_law_90 : decode cX12_law 90 = .ok (.ldc2_w 505, 3) := by decide +kernel
theorem dX12_law_93 : decode cX12_law 93 = .ok (.goto 4, 3) := by decide +kernel
theorem dX12_law_96 : decode cX12_law 96 = .ok (.lload_n 3, 1) := by decide +kernel
theorem dX12_law_97 : decode cX12_law 97 = .ok (.lreturn, 1) := by decide +kernel
theorem dX12_lay_0 : decode cX12_lay 0 = .ok (.aload_n 0, 1) := by decide +kernel
theorem dX12_lay_1 : decode cX12_lay 1 = .ok (.iconst 0, 1) := by decide +kernel
theorem dX12_lay_2 : decode cX12_lay 2 = .ok (.putfield 175, 3) := by decide +kernel
theorem dX12_lay_5 : decode cX12_lay 5 = .ok (.aload_n 0, 1) := by decide +kernel
theorem dX12_lay_6 : decode cX12_lay 6 = .ok (.iload_n 1, 1) := by decide +kernel
theorem dX12_lay_7 : decode cX12_lay 7 = .ok (.invokevirtual 498, 3) := by decide +kernel
theorem dX12_lay_10 : decode cX12_lay 10 = .ok (.ifCond .eq 39, 3) := by decide +kernel
theorem dX12_lay_13 : decode cX12_lay 13 = .ok (.iload_n 2, 1) := by decide +kernel
theorem dX12_lay_14 : decode cX12_lay 14 = .ok (.iconst 0, 1) := by decide +kernel
theorem dX12_lay_15 : decode cX12_lay 15 = .ok (.bipush 7, 2) := by decide +kernel
theorem dX12_lay_17 : decode cX12_lay 17 = .ok (.invokestatic 220, 3) := by decide +kernel
theorem dX12_lay_20 : decode cX12_lay 20 = .ok (.ifCond .eq 29, 3) := by decide +kernel
theorem dX12_lay_23 : decode cX12_lay 23 = .ok (.iload_n 3, 1) := by decide +kernel
theorem dX12_lay_24 : decode cX12_lay 24 = .ok (.bipush (-20), 2) := by decide +kernel
theorem dX12_lay_26 : decode cX12_lay 26 = .ok (.bipush 20, 2) := by decide +kernel
theorem dX12_lay_28 : decode cX12_lay 28 = .ok (.invokestatic 220, 3) := by decide +kernel
theorem dX12_lay_31 : decode cX12_lay 31 = .ok (.ifCond .eq 18, 3) := by decide +kernel
theorem dX12_lay_34 : decode cX12_lay 34 = .ok (.iload_n 3, 1) := by decide +kernel
theorem dX12_lay_35 : decode cX12_lay 35 = .ok (.ifCond .eq 14, 3) := by decide +kernel
theorem dX12_lay_38 : decode cX12_lay 38 = .ok (.aload_n 0, 1) := by decide +kernel
theorem dX12_lay_39 : decode cX12_lay 39 = .ok (.getfield 115, 3) := by decide +kernel
theorem dX12_lay_42 : decode cX12_lay 42 = .ok (.iload_n 1, 1) := by decide +kernel
theorem dX12_lay_43 : decode cX12_lay 43 = .ok (.iaload, 1) := by decide +kernel
theorem dX12_lay_44 : decode cX12_lay 44 = .ok (.bipush 12, 2) := by decide +kernel
theorem dX12_lay_46 : decode cX12_lay 46 = .ok (.if_icmp .ne 7, 3) := by decide +kernel
theorem dX12_lay_49 : decode cX12_lay 49 = .ok (.ldc_w 501, 3) := by decide +kernel
theorem dX12_lay_52 : decode cX12_lay 52 = .ok (.ireturn, 1) := by decide +kernel
theorem dX12_lay_53 : decode cX12_lay 53 = .ok (.aload_n 0, 1) := by decide +kernel
theorem dX12_lay_54 : decode cX12_lay 54 = .ok (.invokevirtual 507, 3) := by decide +kernel
theorem dX12_lay_57 : decode cX12_lay 57 = .ok (.aload_n 0, 1) := by decide +kernel
theorem dX12_lay_58 : decode cX12_lay 58 = .ok (.iconst 0, 1) := by decide +kernel
theorem dX12_lay_59 : decode cX12_lay 59 = .ok (.iload_n 1, 1) := by decide +kernel
theorem dX12_lay_60 : decode cX12_lay 60 = .ok (.iload_n 2, 1) := by decide +kernel
theorem dX12_lay_61 : decode cX12_lay 61 = .ok (.iload_n 3, 1) := by decide +kernel
theorem dX12_lay_62 : decode cX12_lay 62 = .ok (.invokevirtual 459, 3) := by decide +kernel
theorem dX12_lay_65 : decode cX12_lay 65 = .ok (.aload_n 0, 1) := by decide +kernel
theorem dX12_lay_66 : decode cX12_lay 66 = .ok (.iconst 0, 1) := by decide +kernel
theorem dX12_lay_67 : decode cX12_lay 67 = .ok (.iload_n 1, 1) := by decide +kernel
theorem dX12_lay_68 : decode cX12_lay 68 = .ok (.iload_n 2, 1) := by decide +kernel
theorem dX12_lay_69 : decode cX12_lay 69 = .ok (.invokevirtual 440, 3) := by decide +kernel
theorem dX12_lay_72 : decode cX12_lay 72 = .ok (.ireturn, 1) := by decide +kernel
theorem dX12_peel_0 : decode cX12_peel 0 = .ok (.aload_n 0, 1) := by decide +kernel
theorem dX12_peel_1 : decode cX12_peel 1 = .ok (.iconst 0, 1) := by decide +kernel
theorem dX12_peel_2 : decode cX12_peel 2 = .ok (.putfield 175, 3) := by decide +kernel
theorem dX12_peel_5 : decode cX12_peel 5 = .ok (.aload_n 0, 1) := by decide +kernel
theorem dX12_peel_6 : decode cX12_peel 6 = .ok (.iload_n 1, 1) := by decide +kernel
theorem dX12_peel_7 : decode cX12_peel 7 = .ok (.invokevirtual 498, 3) := by decide +kernel
theorem dX12_peel_10 : decode cX12_peel 10 = .ok (.ifCond .eq 12, 3) := by decide +kernel
theorem dX12_peel_13 : decode cX12_peel 13 = .ok (.aload_n 0, 1) := by decide +kernel
theorem dX12_peel_14 : decode cX12_peel 14 = .ok (.getfield 115, 3) := by decide +kernel
theorem dX12_peel_17 : decode cX12_peel 17 = .ok (.iload_n 1, 1) := by decide +kernel
theorem dX12_peel_18 : decode cX12_peel 18 = .ok (.iaload, 1) := by decide +kernel
theorem dX12_peel_19 : decode cX12_peel 19 = .ok (.ifCond .ne 5, 3) := by decide +kernel
theorem dX12_peel_22 : decode cX12_peel 22 = .ok (.iconst (-1), 1) := by decide +kernel
theorem dX12_peel_23 : decode cX12_peel 23 = .ok (.ireturn, 1) := by decide +kernel
theorem dX12_peel_24 : decode cX12_peel 24 = .ok (.aload_n 0, 1) := by decide +kernel
theorem dX12_peel_25 : decode cX12_peel 25 = .ok (.invokevirtual 507, 3) := by decide +kernel
theorem dX12_peel_28 : decode cX12_peel 28 = .ok (.aload_n 0, 1) := by decide +kernel
theorem dX12_peel_29 : decode cX12_peel 29 = .ok (.getfield 115, 3) := by decide +kernel
theorem dX12_peel_32 : decode cX12_peel 32 = .ok (.iload_n 1, 1) := by decide +kernel
theorem dX12_peel_33 : decode cX12_peel 33 = .ok (.dup2, 1) := by decide +kernel
theorem dX12_peel_34 : decode cX12_peel 34 = .ok (.iaload, 1) := by decide +kernel
theorem dX12_peel_35 : decode cX12_peel 35 = .ok (.iconst 1, 1) := by decide +kernel
theorem dX12_peel_36 : decode cX12_peel 36 = .ok (.isub, 1) := by decide +kernel
theorem dX12_peel_37 : decode cX12_peel 37 = .ok (.iastore, 1) := by decide +kernel
theorem dX12_peel_38 : decode cX12_peel 38 = .ok (.aload_n 0, 1) := by decide +kernel
theorem dX12_peel_39 : decode cX12_peel 39 = .ok (.getfield 115, 3) := by decide +kernel
theorem dX12_peel_42 : decode cX12_peel 42 = .ok (.iload_n 1, 1) := by decide +kernel
theorem dX12_peel_43 : decode cX12_peel 43 = .ok (.iaload, 1) := by decide +kernel
theorem dX12_peel_44 : decode cX12_peel 44 = .ok (.ireturn, 1) := by decide +kernel
theorem dX12_move_0 : decode cX12_move 0 = .ok (.aload_n 0, 1) := by decide +kernel
theorem dX12_move_1 : decode cX12_move 1 = .ok (.iconst 0, 1) := by decide +kernel
theorem dX12_move_2 : decode cX12_move 2 = .ok (.putfield 175, 3) := by decide +kernel
theorem dX12_move_5 : decode cX12_move 5 = .ok (.aload_n 0, 1) := by decide +kernel
theorem dX12_move_6 : decode cX12_move 6 = .ok (.iload_n 1, 1) := by decide +kernel
theorem dX12_move_7 : decode cX12_move 7 = .ok (.invokevirtual 492, 3) := by decide +kernel
theorem dX12_move_10 : decode cX12_move 10 = .ok (.ifCond .eq 21, 3) := by decide +kernel
theorem dX12_move_13 : decode cX12_move 13 = .ok (.aload_n 0, 1) := by decide +kernel
theorem dX12_move_14 : decode cX12_move 14 = .ok (.iload_n 2, 1) := by decide +kernel
theorem dX12_move_15 : decode cX12_move 15 = .ok (.invokevirtual 498, 3) := by decide +kernel
theorem dX12_move_18 : decode cX12_move 18 = .ok (.ifCond .eq 13, 3) := by decide +kernel
theorem dX12_move_21 : decode cX12_move 21 = .ok (.aload_n 0, 1) := by decide +kernel
theorem dX12_move_22 : decode cX12_move 22 = .ok (.getfield 118, 3) := by decide +kernel
theorem dX12_move_25 : decode cX12_move 25 = .ok (.iload_n 1, 1) := by decide +kernel
theorem dX12_move_26 : decode cX12_move 26 = .ok (.iaload, 1) := by decide +kernel
theorem dX12_move_27 : decode cX12_move 27 = .ok (.iload_n 2, 1) := by decide +kernel
theorem dX12_move_28 : decode cX12_move 28 = .ok (.if_icmp .ne 5, 3) := by decide +kernel
theorem dX12_move_31 : decode cX12_move 31 = .ok (.iconst 0, 1) := by decide +kernel
theorem dX12_move_32 : decode cX12_move 32 = .ok (.ireturn, 1) := by decide +kernel
theorem dX12_move_33 : decode cX12_move 33 = .ok (.aload_n 0, 1) := by decide +kernel
theorem dX12_move_34 : decode cX12_move 34 = .ok (.invokevirtual 507, 3) := by decide +kernel
theorem dX12_move_37 : decode cX12_move 37 = .ok (.aload_n 0, 1) := by decide +kernel
theorem dX12_move_38 : decode cX12_move 38 = .ok (.getfield 118, 3) := by decide +kernel
theorem dX12_move_41 : decode cX12_move 41 = .ok (.iload_n 1, 1) := by decide +kernel
theorem dX12_move_42 : decode cX12_move 42 = .ok (.iload_n 2, 1) := by decide +kernel
theorem dX12_move_43 : decode cX12_move 43 = .ok (.iastore, 1) := by decide +kernel
theorem dX12_move_44 : decode cX12_move 44 = .ok (.iconst 1, 1) := by decide +kernel
theorem dX12_move_45 : decode cX12_move 45 = .ok (.ireturn, 1) := by decide +kernel
theorem dX12_go_0 : decode cX12_go 0 = .ok (.aload_n 0, 1) := by decide +kernel
theorem dX12_go_1 : decode cX12_go 1 = .ok (.iconst 0, 1) := by decide +kernel
theorem dX12_go_2 : decode cX12_go 2 = .ok (.putfield 175, 3) := by decide +kernel
theorem dX12_go_5 : decode cX12_go 5 = .ok (.iload_n 1, 1) := by decide +kernel
theorem dX12_go_6 : decode cX12_go 6 = .ok (.iconst 0, 1) := by decide +kernel
theorem dX12_go_7 : decode cX12_go 7 = .ok (.sipush 200, 3) := by decide +kernel
theorem dX12_go_10 : decode cX12_go 10 = .ok (.invokestatic 220, 3) := by decide +kernel
theorem dX12_go_13 : decode cX12_go 13 = .ok (.ifCond .eq 17, 3) := by decide +kernel
theorem dX12_go_16 : decode cX12_go 16 = .ok (.aload_n 0, 1) := by decide +kernel
theorem dX12_go_17 : decode cX12_go 17 = .ok (.getfield 133, 3) := by decide +kernel
theorem dX12_go_20 : decode cX12_go 20 = .ok (.iconst 0, 1) := by decide +kernel
theorem dX12_go_21 : decode cX12_go 21 = .ok (.iaload, 1) := by decide +kernel
theorem dX12_go_22 : decode cX12_go 22 = .ok (.iload_n 1, 1) := by decide +kernel
theorem dX12_go_23 : decode cX12_go 23 = .ok (.iadd, 1) := by decide +kernel
theorem dX12_go_24 : decode cX12_go 24 = .ok (.sipush 9000, 3) := by decide +kernel
theorem dX12_go_27 : decode cX12_go 27 = .ok (.if_icmp .le 5, 3) := by decide +kernel
theorem dX12_go_30 : decode cX12_go 30 = .ok (.iconst (-1), 1) := by decide +kernel
theorem dX12_go_31 : decode cX12_go 31 = .ok (.ireturn, 1) := by decide +kernel
theorem dX12_go_32 : decode cX12_go 32 = .ok (.aload_n 0, 1) := by decide +kernel
theorem dX12_go_33 : decode cX12_go 33 = .ok (.invokevirtual 395, 3) := by decide +kernel
theorem dX12_go_36 : decode cX12_go 36 = .ok (.aload_n 0, 1) := by decide +kernel
theorem dX12_go_37 : decode cX12_go 37 = .ok (.iconst 1, 1) := by decide +kernel
theorem dX12_go_38 : decode cX12_go 38 = .ok (.putfield 411, 3) := by decide +kernel
theorem dX12_go_41 : decode cX12_go 41 = .ok (.iconst 0, 1) := by decide +kernel
theorem dX12_go_42 : decode cX12_go 42 = .ok (.istore_n 2, 1) := by decide +kernel
theorem dX12_go_43 : decode cX12_go 43 = .ok (.iload_n 2, 1) := by decide +kernel
theorem dX12_go_44 : decode cX12_go 44 = .ok (.iload_n 1, 1) := by decide +kernel
theorem dX12_go_45 : decode cX12_go 45 = .ok (.if_icmp .ge 14, 3) := by decide +kernel
theorem dX12_go_48 : decode cX12_go 48 = .ok (.aload_n 0, 1) := by decide +kernel
theorem dX12_go_49 : decode cX12_go 49 = .ok (.iconst 0, 1) := by decide +kernel
theorem dX12_go_50 : decode cX12_go 50 = .ok (.invokevirtual 489, 3) := by decide +kernel
theorem dX12_go_53 : decode cX12_go 53 = .ok (.iinc 2 1, 3) := by decide +kernel
theorem dX12_go_56 : decode cX12_go 56 = .ok (.goto (-13), 3) := by decide +kernel
theorem dX12_go_59 : decode cX12_go 59 = .ok (.aload_n 0, 1) := by decide +kernel
theorem dX12_go_60 : decode cX12_go 60 = .ok (.iconst 0, 1) := by decide +kernel
theorem dX12_go_61 : decode cX12_go 61 = .ok (.putfield 411, 3) := by decide +kernel
theorem dX12_go_64 : decode cX12_go 64 = .ok (.aload_n 0, 1) := by decide +kernel
theorem dX12_go_65 : decode cX12_go 65 = .ok (.iload_n 1, 1) := by decide +kernel
theorem dX12_go_66 : decode cX12_go 66 = .ok (.ifCond .le 7, 3) := by decide +kernel
theorem dX12_go_69 : decode cX12_go 69 = .ok (.iconst 0, 1) := by decide +kernel
theorem dX12_go_70 : decode cX12_go 70 = .ok (.goto 7, 3) := by decide +kernel
theorem dX12_go_73 : decode cX12_go 73 = .ok (.aload_n 0, 1) := by decide +kernel
theorem dX12_go_74 : decode cX12_go 74 = .ok (.getfield 401, 3) := by decide +kernel
theorem dX12_go_77 : decode cX12_go 77 = .ok (.putfield 401, 3) := by decide +kernel
theorem dX12_go_80 : decode cX12_go 80 = .ok (.aload_n 0, 1) := by decide +kernel
theorem dX12_go_81 : decode cX12_go 81 = .ok (.getfield 133, 3) := by decide +kernel
theorem dX12_go_84 : decode cX12_go 84 = .ok (.iconst 0, 1) := by decide +kernel
theorem dX12_go_85 : decode cX12_go 85 = .ok (.iaload, 1) := by decide +kernel
theorem dX12_go_86 : decode cX12_go 86 = .ok (.ireturn, 1) := by decide +kernel
theorem dX12_ahead_0 : decode cX12_ahead 0 = .ok (.aload_n 0, 1) := by decide +kernel
theorem dX12_ahead_1 : decode cX12_ahead 1 = .ok (.iconst 0, 1) := by decide +kernel
theorem dX12_ahead_2 : decode cX12_ahead 2 = .ok (.putfield 175, 3) := by decide +kernel
theorem dX12_ahead_5 : decode cX12_ahead 5 = .ok (.iload_n 1, 1) := by decide +kernel
theorem dX12_ahead_6 : decode cX12_ahead 6 = .ok (.iconst 0, 1) := by decide +kernel
theorem dX12_ahead_7 : decode cX12_ahead 7 = .ok (.sipush 200, 3) := by decide +kernel
theorem dX12_ahead_10 : decode cX12_ahead 10 = .ok (.invokestatic 220, 3) := by decide +kernel
theorem dX12_ahead_13 : decode cX12_ahead 13 = .ok (.ifCond .eq 38, 3) := by decide +kernel
theorem dX12_ahead_16 : decode cX12_ahead 16 = .ok (.iload_n 2, 1) := by decide +kernel
theorem dX12_ahead_17 : decode cX12_ahead 17 = .ok (.iconst 0, 1) := by decide +kernel
theorem dX12_ahead_18 : decode cX12_ahead 18 = .ok (.iconst 4, 1) := by decide +kernel
theorem dX12_ahead_19 : decode cX12_ahead 19 = .ok (.invokestatic 220, 3) := by decide +kernel
theorem dX12_ahead_22 : decode cX12_ahead 22 = .ok (.ifCond .eq 29, 3) := by decide +kernel
theorem dX12_ahead_25 : decode cX12_ahead 25 = .ok (.iload_n 2, 1) := by decide +kernel
theorem dX12_ahead_26 : decode cX12_ahead 26 = .ok (.iconst 1, 1) := by decide +kernel
theorem dX12_ahead_27 : decode cX12_ahead 27 = .ok (.if_icmp .ne 11, 3) := by decide +kernel
theorem dX12_ahead_30 : decode cX12_ahead 30 = .ok (.aload_n 0, 1) := by decide +kernel
theorem dX12_ahead_31 : decode cX12_ahead 31 = .ok (.iload_n 3, 1) := by decide +kernel
theorem dX12_ahead_32 : decode cX12_ahead 32 = .ok (.invokevirtual 492, 3) := by decide +kernel
theorem dX12_ahead_35 : decode cX12_ahead 35 = .ok (.ifCond .eq 16, 3) := by decide +kernel
theorem dX12_ahead_38 : decode cX12_ahead 38 = .ok (.iload_n 2, 1) := by decide +kernel
theorem dX12_ahead_39 : decode cX12_ahead 39 = .ok (.iconst 2, 1) := by decide +kernel
theorem dX12_ahead_40 : decode cX12_ahead 40 = .ok (.if_icmp .ne 15, 3) := by decide +kernel
theorem dX12_ahead_43 : decode cX12_ahead 43 = .ok (.aload_n 0, 1) := by decide +kernel
theorem dX12_ahead_44 : decode cX12_ahead 44 = .ok (.iload_n 3, 1) := by decide +kernel
theorem dX12_ahead_45 : decode cX12_ahead 45 = .ok (.invokevirtual 498, 3) := by decide +kernel
theorem dX12_ahead_48 : decode cX12_ahead 48 = .ok (.ifCond .ne 7, 3) := by decide +kernel
theorem dX12_ahead_51 : decode cX12_ahead 51 = .ok (.ldc_w 501, 3) := by decide +kernel
theorem dX12_ahead_54 : decode cX12_ahead 54 = .ok (.ireturn, 1) := by decide +kernel
theorem dX12_ahead_55 : decode cX12_ahead 55 = .ok (.aload_n 0, 1) := by decide +kernel
theorem dX12_ahead_56 : decode cX12_ahead 56 = .ok (.invokevirtual 510, 3) := by decide +kernel
theorem dX12_ahead_59 : decode cX12_ahead 59 = .ok (.aload_n 0, 1) := by decide +kernel
theorem dX12_ahead_60 : decode cX12_ahead 60 = .ok (.iload_n 1, 1) := by decide +kernel
theorem dX12_ahead_61 : decode cX12_ahead 61 = .ok (.invokevirtual 513, 3) := by decide +kernel
theorem dX12_ahead_64 : decode cX12_ahead 64 = .ok (.iload_n 2, 1) := by decide +kernel
theorem dX12_ahead_65 : decode cX12_ahead 65 = .ok (.tableswitch 66 0 3 #[31, 43, 53, 60], 31) := by decide +kernel
theorem dX12_ahead_96 : decode cX12_ahead 96 = .ok (.aload_n 0, 1) := by decide +kernel
theorem dX12_ahead_97 : decode cX12_ahead 97 = .ok (.iconst 1, 1) := by decide +kernel
theorem dX12_ahead_98 : decode cX12_ahead 98 = .ok (.invokevirtual 516, 3) := by decide +kernel
theorem dX12_ahead_101 : decode cX12_ahead 101 = .ok (.aload_n 0, 1) := by decide +kernel
theorem dX12_ahead_102 : decode cX12_ahead 102 = .ok (.iconst 0, 1) := by decide +kernel
theorem dX12_ahead_103 : decode cX12_ahead 103 = .ok (.invokevirtual 516, 3) := by decide +kernel
theorem dX12_ahead_106 : decode cX12_ahead 106 = .ok (.isub, 1) := by decide +kernel
theorem dX12_ahead_107 : decode cX12_ahead 107 = .ok (.ireturn, 1) := by decide +kernel
theorem dX12_ahead_108 : decode cX12_ahead 108 = .ok (.aload_n 0, 1) := by decide +kernel
theorem dX12_ahead_109 : decode cX12_ahead 109 = .ok (.getfield 124, 3) := by decide +kernel
theorem dX12_ahead_112 : decode cX12_ahead 112 = .ok (.bipush 8, 2) := by decide +kernel
theorem dX12_ahead_114 : decode cX12_ahead 114 = .ok (.iload_n 3, 1) := by decide +kernel
theorem dX12_ahead_115 : decode cX12_ahead 115 = .ok (.iadd, 1) := by decide +kernel
theorem dX12_ahead_116 : decode cX12_ahead 116 = .ok (.iaload, 1) := by decide +kernel
theorem dX12_ahead_117 : decode cX12_ahead 117 = .ok (.ireturn, 1) := by decide +kernel
theorem dX12_ahead_118 : decode cX12_ahead 118 = .ok (.aload_n 0, 1) := by decide +kernel
theorem dX12_ahead_119 : decode cX12_ahead 119 = .ok (.iconst 1, 1) := by decide +kernel
theorem dX12_ahead_120 : decode cX12_ahead 120 = .ok (.iload_n 3, 1) := by decide +kernel
theorem dX12_ahead_121 : decode cX12_ahead 121 = .ok (.invokevirtual 519, 3) := by decide +kernel
theorem dX12_ahead_124 : decode cX12_ahead 124 = .ok (.ireturn, 1) := by decide +kernel
theorem dX12_ahead_125 : decode cX12_ahead 125 = .ok (.aload_n 0, 1) := by decide +kernel
theorem dX12_ahead_126 : decode cX12_ahead 126 = .ok (.iconst 1, 1) := by decide +kernel
theorem dX12_ahead_127 : decode cX12_ahead 127 = .ok (.invokevirtual 522, 3) := by decide +kernel
theorem dX12_ahead_130 : decode cX12_ahead 130 = .ok (.ireturn, 1) := by decide +kernel
theorem dX12_ahead_131 : decode cX12_ahead 131 = .ok (.aload_n 0, 1) := by decide +kernel
theorem dX12_ahead_132 : decode cX12_ahead 132 = .ok (.getfield 130, 3) := by decide +kernel
theorem dX12_ahead_135 : decode cX12_ahead 135 = .ok (.iconst 1, 1) := by decide +kernel
theorem dX12_ahead_136 : decode cX12_ahead 136 = .ok (.iaload, 1) := by decide +kernel
theorem dX12_ahead_137 : decode cX12_ahead 137 = .ok (.aload_n 0, 1) := by decide +kernel
theorem dX12_ahead_138 : decode cX12_ahead 138 = .ok (.getfield 130, 3) := by decide +kernel
theorem dX12_ahead_141 : decode cX12_ahead 141 = .ok (.iconst 0, 1) := by decide +kernel
theorem dX12_ahead_142 : decode cX12_ahead 142 = .ok (.iaload, 1) := by decide +kernel
theorem dX12_ahead_143 : decode cX12_ahead 143 = .ok (.isub, 1) := by decide +kernel
theorem dX12_ahead_144 : decode cX12_ahead 144 = .ok (.ireturn, 1) := by decide +kernel
theorem dX12_firstCorn_0 : decode cX12_firstCorn 0 = .ok (.aload_n 0, 1) := by decide +kernel
theorem dX12_firstCorn_1 : decode cX12_firstCorn 1 = .ok (.iconst 0, 1) := by decide +kernel
theorem dX12_firstCorn_2 : decode cX12_firstCorn 2 = .ok (.putfield 175, 3) := by decide +kernel
theorem dX12_firstCorn_5 : decode cX12_firstCorn 5 = .ok (.iload_n 1, 1) := by decide +kernel
theorem dX12_firstCorn_6 : decode cX12_firstCorn 6 = .ok (.iconst 0, 1) := by decide +kernel
theorem dX12_firstCorn_7 : decode cX12_firstCorn 7 = .ok (.iconst 1, 1) := by decide +kernel
theorem dX12_firstCorn_8 : decode cX12_firstCorn 8 = .ok (.invokestatic 220, 3) := by decide +kernel
theorem dX12_firstCorn_11 : decode cX12_firstCorn 11 = .ok (.ifCond .ne 5, 3) := by decide +kernel
theorem dX12_firstCorn_14 : decode cX12_firstCorn 14 = .ok (.iconst (-1), 1) := by decide +kernel
theorem dX12_firstCorn_15 : decode cX12_firstCorn 15 = .ok (.ireturn, 1) := by decide +kernel
theorem dX12_firstCorn_16 : decode cX12_firstCorn 16 = .ok (.aload_n 0, 1) := by decide +kernel
theorem dX12_firstCorn_17 : decode cX12_firstCorn 17 = .ok (.invokevirtual 510, 3) := by decide +kernel
theorem dX12_firstCorn_20 : decode cX12_firstCorn 20 = .ok (.iconst 1, 1) := by decide +kernel
theorem dX12_firstCorn_21 : decode cX12_firstCorn 21 = .ok (.istore_n 2, 1) := by decide +kernel
theorem dX12_firstCorn_22 : decode cX12_firstCorn 22 = .ok (.iload_n 2, 1) := by decide +kernel
theorem dX12_firstCorn_23 : decode cX12_firstCorn 23 = .ok (.sipush 200, 3) := by decide +kernel
theorem dX12_firstCorn_26 : decode cX12_firstCorn 26 = .ok (.if_icmp .ge 58, 3) := by decide +kernel
theorem dX12_firstCorn_29 : decode cX12_firstCorn 29 = .ok (.aload_n 0, 1) := by decide +kernel
theorem dX12_firstCorn_30 : decode cX12_firstCorn 30 = .ok (.iconst 1, 1) := by decide +kernel
theorem dX12_firstCorn_31 : decode cX12_firstCorn 31 = .ok (.invokevirtual 489, 3) := by decide +kernel
theorem dX12_firstCorn_34 : decode cX12_firstCorn 34 = .ok (.iconst 0, 1) := by decide +kernel
theorem dX12_firstCorn_35 : decode cX12_firstCorn 35 = .ok (.istore_n 3, 1) := by decide +kernel
theorem dX12_firstCorn_36 : decode cX12_firstCorn 36 = .ok (.iload_n 3, 1) := by decide +kernel
theorem dX12_firstCorn_37 : decode cX12_firstCorn 37 = .ok (.aload_n 0, 1) := by decide +kernel
theorem dX12_firstCorn_38 : decode cX12_firstCorn 38 = .ok (.getfield 261, 3) := by decide +kernel
theorem dX12_firstCorn_41 : decode cX12_firstCorn 41 = .ok (.if_icmp .ge 37, 3) := by decide +kernel
theorem dX12_firstCorn_44 : decode cX12_firstCorn 44 = .ok (.aload_n 0, 1) := by decide +kernel
theorem dX12_firstCorn_45 : decode cX12_firstCorn 45 = .ok (.getfield 124, 3) := by decide +kernel
theorem dX12_firstCorn_48 : decode cX12_firstCorn 48 = .ok (.bipush 8, 2) := by decide +kernel
theorem dX12_firstCorn_50 : decode cX12_firstCorn 50 = .ok (.iload_n 3, 1) := by decide +kernel
theorem dX12_firstCorn_51 : decode cX12_firstCorn 51 = .ok (.iadd, 1) := by decide +kernel
theorem dX12_firstCorn_52 : decode cX12_firstCorn 52 = .ok (.iaload, 1) := by decide +kernel
theorem dX12_firstCorn_53 : decode cX12_firstCorn 53 = .ok (.aload_n 0, 1) := by decide +kernel
theorem dX12_firstCorn_54 : decode cX12_firstCorn 54 = .ok (.getfield 124, 3) := by decide +kernel
theorem dX12_firstCorn_57 : decode cX12_firstCorn 57 = .ok (.iload_n 3, 1) := by decide +kernel
theorem dX12_firstCorn_58 : decode cX12_firstCorn 58 = .ok (.iaload, 1) := by decide +kernel
theorem dX12_firstCorn_59 : decode cX12_firstCorn 59 = .ok (.if_icmp .le 13, 3) := by decide +kernel
theorem dX12_firstCorn_62 : decode cX12_firstCorn 62 = .ok (.iload_n 1, 1) := by decide +kernel
theorem dX12_firstCorn_63 : decode cX12_firstCorn 63 = .ok (.ifCond .ne 7, 3) := by decide +kernel
theorem dX12_firstCorn_66 : decode cX12_firstCorn 66 = .ok (.iload_n 2, 1) := by decide +kernel
theorem dX12_firstCorn_67 : decode cX12_firstCorn 67 = .ok (.goto 4, 3) := by decide +kernel
theorem dX12_firstCorn_70 : decode cX12_firstCorn 70 = .ok (.iload_n 3, 1) := by decide +kernel
theorem dX12_firstCorn_71 : decode cX12_firstCorn 71 = .ok (.ireturn, 1) := by decide +kernel
theorem dX12_firstCorn_72 : decode cX12_firstCorn 72 = .ok (.iinc 3 1, 3) := by decide +kernel
theorem dX12_firstCorn_75 : decode cX12_firstCorn 75 = .ok (.goto (-39), 3) := by decide +kernel
theorem dX12_firstCorn_78 : decode cX12_firstCorn 78 = .ok (.iinc 2 1, 3) := by decide +kernel
theorem dX12_firstCorn_81 : decode cX12_firstCorn 81 = .ok (.goto (-59), 3) := by decide +kernel
theorem dX12_firstCorn_84 : decode cX12_firstCorn 84 = .ok (.bipush (-2), 2) := by decide +kernel
theorem dX12_firstCorn_86 : decode cX12_firstCorn 86 = .ok (.ireturn, 1) := by decide +kernel
theorem dX12_nearest_0 : decode cX12_nearest 0 = .ok (.aload_n 0, 1) := by decide +kernel
theorem dX12_nearest_1 : decode cX12_nearest 1 = .ok (.iconst 0, 1) := by decide +kernel
theorem dX12_nearest_2 : decode cX12_nearest 2 = .ok (.putfield 175, 3) := by decide +kernel
theorem dX12_nearest_5 : decode cX12_nearest 5 = .ok (.aload_n 0, 1) := by decide +kernel
theorem dX12_nearest_6 : decode cX12_nearest 6 = .ok (.iload_n 1, 1) := by decide +kernel
theorem dX12_nearest_7 : decode cX12_nearest 7 = .ok (.invokevirtual 492, 3) := by decide +kernel
theorem dX12_nearest_10 : decode cX12_nearest 10 = .ok (.ifCond .ne 5, 3) := by decide +kernel
theorem dX12_nearest_13 : decode cX12_nearest 13 = .ok (.iconst (-1), 1) := by decide +kernel
theorem dX12_nearest_14 : decode cX12_nearest 14 = .ok (.ireturn, 1) := by decide +kernel
theorem dX12_nearest_15 : decode cX12_nearest 15 = .ok (.bipush (-2), 2) := by decide +kernel
theorem dX12_nearest_17 : decode cX12_nearest 17 = .ok (.istore_n 2, 1) := by decide +kernel
theorem dX12_nearest_18 : decode cX12_nearest 18 = .ok (.iconst 0, 1) := by decide +kernel
theorem dX12_nearest_19 : decode cX12_nearest 19 = .ok (.istore_n 3, 1) := by decide +kernel
theorem dX12_nearest_20 : decode cX12_nearest 20 = .ok (.iload_n 3, 1) := by decide +kernel
theorem dX12_nearest_21 : decode cX12_nearest 21 = .ok (.aload_n 0, 1) := by decide +kernel
theorem dX12_nearest_22 : decode cX12_nearest 22 = .ok (.getfield 258, 3) := by decide +kernel
theorem dX12_nearest_25 : decode cX12_nearest 25 = .ok (.if_icmp .ge 34, 3) := by decide +kernel
theorem dX12_nearest_28 : decode cX12_nearest 28 = .ok (.iload_n 2, 1) := by decide +kernel
theorem dX12_nearest_29 : decode cX12_nearest 29 = .ok (.ifCond .lt 22, 3) := by decide +kernel
theorem dX12_nearest_32 : decode cX12_nearest 32 = .ok (.aload_n 0, 1) := by decide +kernel
theorem dX12_nearest_33 : decode cX12_nearest 33 = .ok (.iconst 0, 1) := by decide +kernel
theorem dX12_nearest_34 : decode cX12_nearest 34 = .ok (.iload_n 1, 1) := by decide +kernel
theorem dX12_nearest_35 : decode cX12_nearest 35 = .ok (.iload_n 3, 1) := by decide +kernel
theorem dX12_nearest_36 : decode cX12_nearest 36 = .ok (.iconst 0, 1) := by decide +kernel
theorem dX12_nearest_37 : decode cX12_nearest 37 = .ok (.invokevirtual 502, 3) := by decide +kernel
theorem dX12_nearest_40 : decode cX12_nearest 40 = .ok (.aload_n 0, 1) := by decide +kernel
theorem dX12_nearest_41 : decode cX12_nearest 41 = .ok (.iconst 0, 1) := by decide +kernel
theorem dX12_nearest_42 : decode cX12_nearest 42 = .ok (.iload_n 1, 1) := by decide +kernel
theorem dX12_nearest_43 : decode cX12_nearest 43 = .ok (.iload_n 2, 1) := by decide +kernel
theorem dX12_nearest_44 : decode cX12_nearest 44 = .ok (.iconst 0, 1) := by decide +kernel
theorem dX12_nearest_45 : decode cX12_nearest 45 = .ok (.invokevirtual 502, 3) := by decide +kernel
theorem dX12_nearest_48 : decode cX12_nearest 48 = .ok (.if_icmp .ge 5, 3) := by decide +kernel
theorem dX12_nearest_51 : decode cX12_nearest 51 = .ok (.iload_n 3, 1) := by decide +kernel
theorem dX12_nearest_52 : decode cX12_nearest 52 = .ok (.istore_n 2, 1) := by decide +kernel
theorem dX12_nearest_53 : decode cX12_nearest 53 = .ok (.iinc 3 1, 3) := by decide +kernel
theorem dX12_nearest_56 : decode cX12_nearest 56 = .ok (.goto (-36), 3) := by decide +kernel
theorem dX12_nearest_59 : decode cX12_nearest 59 = .ok (.iload_n 2, 1) := by decide +kernel
theorem dX12_nearest_60 : decode cX12_nearest 60 = .ok (.ireturn, 1) := by decide +kernel
theorem dX12_likeOf_0 : decode cX12_likeOf 0 = .ok (.iconst 0, 1) := by decide +kernel
theorem dX12_likeOf_1 : decode cX12_likeOf 1 = .ok (.istore_n 3, 1) := by decide +kernel
theorem dX12_likeOf_2 : decode cX12_likeOf 2 = .ok (.iconst 0, 1) := by decide +kernel
theorem dX12_likeOf_3 : decode cX12_likeOf 3 = .ok (.istore 4, 2) := by decide +kernel
theorem dX12_likeOf_5 : decode cX12_likeOf 5 = .ok (.iload 4, 2) := by decide +kernel
theorem dX12_likeOf_7 : decode cX12_likeOf 7 = .ok (.bipush 8, 2) := by decide +kernel
theorem dX12_likeOf_9 : decode cX12_likeOf 9 = .ok (.if_icmp .ge 32, 3) := by decide +kernel
theorem dX12_likeOf_12 : decode cX12_likeOf 12 = .ok (.iload_n 3, 1) := by decide +kernel
theorem dX12_likeOf_13 : decode cX12_likeOf 13 = .ok (.aload_n 0, 1) := by decide +kernel
theorem dX12_likeOf_14 : decode cX12_likeOf 14 = .ok (.iconst 0, 1) := by decide +kernel
theorem dX12_likeOf_15 : decode cX12_likeOf 15 = .ok (.iload_n 1, 1) := by decide +kernel
theorem dX12_likeOf_16 : decode cX12_likeOf 16 = .ok (.iload 4, 2) := by decide +kernel
theorem dX12_likeOf_18 : decode cX12_likeOf 18 = .ok (.invokevirtual 440, 3) := by decide +kernel
theorem dX12_likeOf_21 : decode cX12_likeOf 21 = .ok (.aload_n 0, 1) := by decide +kernel
theorem dX12_likeOf_22 : decode cX12_likeOf 22 = .ok (.iconst 0, 1) := by decide +kernel
theorem dX12_likeOf_23 : decode cX12_likeOf 23 = .ok (.iload_n 2, 1) := by decide +kernel
theorem dX12_likeOf_24 : decode cX12_likeOf 24 = .ok (.iload 4, 2) := by decide +kernel
theorem dX12_likeOf_26 : decode cX12_likeOf 26 = .ok (.invokevirtual 440, 3) := by decide +kernel
theorem dX12_likeOf_29 : decode cX12_likeOf 29 = .ok (.isub, 1) := by decide +kernel
theorem dX12_likeOf_30 : decode cX12_likeOf 30 = .ok (.invokestatic 437, 3) := by decide +kernel
theorem dX12_likeOf_33 : decode cX12_likeOf 33 = .ok (.iadd, 1) := by decide +kernel
theorem dX12_likeOf_34 : decode cX12_likeOf 34 = .ok (.istore_n 3, 1) := by decide +kernel
theorem dX12_likeOf_35 : decode cX12_likeOf 35 = .ok (.iinc 4 1, 3) := by decide +kernel
theorem dX12_likeOf_38 : decode cX12_likeOf 38 = .ok (.goto (-33), 3) := by decide +kernel
theorem dX12_likeOf_41 : decode cX12_likeOf 41 = .ok (.iload_n 3, 1) := by decide +kernel
theorem dX12_likeOf_42 : decode cX12_likeOf 42 = .ok (.ireturn, 1) := by decide +kernel
theorem dX12_areTwo_0 : decode cX12_areTwo 0 = .ok (.aload_n 0, 1) := by decide +kernel
theorem dX12_areTwo_1 : decode cX12_areTwo 1 = .ok (.iload_n 1, 1) := by decide +kernel
theorem dX12_areTwo_2 : decode cX12_areTwo 2 = .ok (.invokevirtual 498, 3) := by decide +kernel
theorem dX12_areTwo_5 : decode cX12_areTwo 5 = .ok (.ifCond .eq 20, 3) := by decide +kernel
theorem dX12_areTwo_8 : decode cX12_areTwo 8 = .ok (.aload_n 0, 1) := by decide +kernel
theorem dX12_areTwo_9 : decode cX12_areTwo 9 = .ok (.iload_n 2, 1) := by decide +kernel
theorem dX12_areTwo_10 : decode cX12_areTwo 10 = .ok (.invokevirtual 498, 3) := by decide +kernel
theorem dX12_areTwo_13 : decode cX12_areTwo 13 = .ok (.ifCond .eq 12, 3) := by decide +kernel
theorem dX12_areTwo_16 : decode cX12_areTwo 16 = .ok (.iload_n 1, 1) := by decide +kernel
theorem dX12_areTwo_17 : decode cX12_areTwo 17 = .ok (.iload_n 2, 1) := by decide +kernel
theorem dX12_areTwo_18 : decode cX12_areTwo 18 = .ok (.if_icmp .eq 7, 3) := by decide +kernel
theorem dX12_areTwo_21 : decode cX12_areTwo 21 = .ok (.iconst 1, 1) := by decide +kernel
theorem dX12_areTwo_22 : decode cX12_areTwo 22 = .ok (.goto 4, 3) := by decide +kernel
theorem dX12_areTwo_25 : decode cX12_areTwo 25 = .ok (.iconst 0, 1) := by decide +kernel
theorem dX12_areTwo_26 : decode cX12_areTwo 26 = .ok (.ireturn, 1) := by decide +kernel
theorem dX12_likeness_0 : decode cX12_likeness 0 = .ok (.aload_n 0, 1) := by decide +kernel
theorem dX12_likeness_1 : decode cX12_likeness 1 = .ok (.iconst 0, 1) := by decide +kernel
theorem dX12_likeness_2 : decode cX12_likeness 2 = .ok (.putfield 175, 3) := by decide +kernel
theorem dX12_likeness_5 : decode cX12_likeness 5 = .ok (.aload_n 0, 1) := by decide +kernel
theorem dX12_likeness_6 : decode cX12_likeness 6 = .ok (.iload_n 1, 1) := by decide +kernel
theorem dX12_likeness_7 : decode cX12_likeness 7 = .ok (.iload_n 2, 1) := by decide +kernel
theorem dX12_likeness_8 : decode cX12_likeness 8 = .ok (.invokevirtual 525, 3) := by decide +kernel
theorem dX12_likeness_11 : decode cX12_likeness 11 = .ok (.ifCond .eq 12, 3) := by decide +kernel
theorem dX12_likeness_14 : decode cX12_likeness 14 = .ok (.aload_n 0, 1) := by decide +kernel
theorem dX12_likeness_15 : decode cX12_likeness 15 = .ok (.iload_n 1, 1) := by decide +kernel
theorem dX12_likeness_16 : decode cX12_likeness 16 = .ok (.iload_n 2, 1) := by decide +kernel
theorem dX12_likeness_17 : decode cX12_likeness 17 = .ok (.invokevirtual 528, 3) := by decide +kernel
theorem dX12_likeness_20 : decode cX12_likeness 20 = .ok (.goto 4, 3) := by decide +kernel
theorem dX12_likeness_23 : decode cX12_likeness 23 = .ok (.iconst (-1), 1) := by decide +kernel
theorem dX12_likeness_24 : decode cX12_likeness 24 = .ok (.ireturn, 1) := by decide +kernel
theorem dX12_heart_0 : decode cX12_heart 0 = .ok (.aload_n 0, 1) := by decide +kernel
theorem dX12_heart_1 : decode cX12_heart 1 = .ok (.iconst 0, 1) := by decide +kernel
theorem dX12_heart_2 : decode cX12_heart 2 = .ok (.putfield 175, 3) := by decide +kernel
theorem dX12_heart_5 : decode cX12_heart 5 = .ok (.iload_n 1, 1) := by decide +kernel
theorem dX12_heart_6 : decode cX12_heart 6 = .ok (.iconst 0, 1) := by decide +kernel
theorem dX12_heart_7 : decode cX12_heart 7 = .ok (.bipush 7, 2) := by decide +kernel
theorem dX12_heart_9 : decode cX12_heart 9 = .ok (.invokestatic 220, 3) := by decide +kernel
theorem dX12_heart_12 : decode cX12_heart 12 = .ok (.ifCond .eq 10, 3) := by decide +kernel
theorem dX12_heart_15 : decode cX12_heart 15 = .ok (.aload_n 0, 1) := by decide +kernel
theorem dX12_heart_16 : decode cX12_heart 16 = .ok (.getfield 258, 3) := by decide +kernel
theorem dX12_heart_19 : decode cX12_heart 19 = .ok (.ifCond .ne 7, 3) := by decide +kernel
theorem dX12_heart_22 : decode cX12_heart 22 = .ok (.ldc_w 501, 3) := by decide +kernel
theorem dX12_heart_25 : decode cX12_heart 25 = .ok (.ireturn, 1) := by decide +kernel
theorem dX12_heart_26 : decode cX12_heart 26 = .ok (.aload_n 0, 1) := by decide +kernel
theorem dX12_heart_27 : decode cX12_heart 27 = .ok (.iconst 0, 1) := by decide +kernel
theorem dX12_heart_28 : decode cX12_heart 28 = .ok (.iconst 0, 1) := by decide +kernel
theorem dX12_heart_29 : decode cX12_heart 29 = .ok (.iload_n 1, 1) := by decide +kernel
theorem dX12_heart_30 : decode cX12_heart 30 = .ok (.invokevirtual 440, 3) := by decide +kernel
theorem dX12_heart_33 : decode cX12_heart 33 = .ok (.istore_n 2, 1) := by decide +kernel
theorem dX12_heart_34 : decode cX12_heart 34 = .ok (.iconst 1, 1) := by decide +kernel
theorem dX12_heart_35 : decode cX12_heart 35 = .ok (.istore_n 3, 1) := by decide +kernel
theorem dX12_heart_36 : decode cX12_heart 36 = .ok (.iload_n 3, 1) := by decide +kernel
theorem dX12_heart_37 : decode cX12_heart 37 = .ok (.aload_n 0, 1) := by decide +kernel
theorem dX12_heart_38 : decode cX12_heart 38 = .ok (.getfield 258, 3) := by decide +kernel
theorem dX12_heart_41 : decode cX12_heart 41 = .ok (.if_icmp .ge 32, 3) := by decide +kernel
theorem dX12_heart_44 : decode cX12_heart 44 = .ok (.aload_n 0, 1) := by decide +kernel
theorem dX12_heart_45 : decode cX12_heart 45 = .ok (.iconst 0, 1) := by decide +kernel
theorem dX12_heart_46 : decode cX12_heart 46 = .ok (.iload_n 3, 1) := by decide +kernel
theorem dX12_heart_47 : decode cX12_heart 47 = .ok (.iload_n 1, 1) := by decide +kernel
theorem dX12_heart_48 : decode cX12_heart 48 = .ok (.invokevirtual 440, 3) := by decide +kernel
theorem dX12_heart_51 : decode cX12_heart 51 = .ok (.iload_n 2, 1) := by decide +kernel
theorem dX12_heart_52 : decode cX12_heart 52 = .ok (.if_icmp .ge 13, 3) := by decide +kernel
theorem dX12_heart_55 : decode cX12_heart 55 = .ok (.aload_n 0, 1) := by decide +kernel
theorem dX12_heart_56 : decode cX12_heart 56 = .ok (.iconst 0, 1) := by decide +kernel
theorem dX12_heart_57 : decode cX12_heart 57 = .ok (.iload_n 3, 1) := by decide +kernel
theorem dX12_heart_58 : decode cX12_heart 58 = .ok (.iload_n 1, 1) := by decide +kernel
theorem dX12_heart_59 : decode cX12_heart 59 = .ok (.invokevirtual 440, 3) := by decide +kernel
theorem dX12_heart_62 : decode cX12_heart 62 = .ok (.goto 4, 3) := by decide +kernel
theorem dX12_heart_65 : decode cX12_heart 65 = .ok (.iload_n 2, 1) := by decide +kernel
theorem dX12_heart_66 : decode cX12_heart 66 = .ok (.istore_n 2, 1) := by decide +kernel
theorem dX12_heart_67 : decode cX12_heart 67 = .ok (.iinc 3 1, 3) := by decide +kernel
theorem dX12_heart_70 : decode cX12_heart 70 = .ok (.goto (-34), 3) := by decide +kernel
theorem dX12_heart_73 : decode cX12_heart 73 = .ok (.iload_n 2, 1) := by decide +kernel
theorem dX12_heart_74 : decode cX12_heart 74 = .ok (.ireturn, 1) := by decide +kernel
theorem dX12_manyOf_0 : decode cX12_manyOf 0 = .ok (.iconst 0, 1) := by decide +kernel
theorem dX12_manyOf_1 : decode cX12_manyOf 1 = .ok (.istore_n 1, 1) := by decide +kernel
theorem dX12_manyOf_2 : decode cX12_manyOf 2 = .ok (.iconst 0, 1) := by decide +kernel
theorem dX12_manyOf_3 : decode cX12_manyOf 3 = .ok (.istore_n 2, 1) := by decide +kernel
theorem dX12_manyOf_4 : decode cX12_manyOf 4 = .ok (.iload_n 2, 1) := by decide +kernel
theorem dX12_manyOf_5 : decode cX12_manyOf 5 = .ok (.bipush 21, 2) := by decide +kernel
theorem dX12_manyOf_7 : decode cX12_manyOf 7 = .ok (.if_icmp .ge 17, 3) := by decide +kernel
theorem dX12_manyOf_10 : decode cX12_manyOf 10 = .ok (.iload_n 1, 1) := by decide +kernel
theorem dX12_manyOf_11 : decode cX12_manyOf 11 = .ok (.iload_n 0, 1) := by decide +kernel
theorem dX12_manyOf_12 : decode cX12_manyOf 12 = .ok (.iload_n 2, 1) := by decide +kernel
theorem dX12_manyOf_13 : decode cX12_manyOf 13 = .ok (.ishr, 1) := by decide +kernel
theorem dX12_manyOf_14 : decode cX12_manyOf 14 = .ok (.iconst 1, 1) := by decide +kernel
theorem dX12_manyOf_15 : decode cX12_manyOf 15 = .ok (.iand, 1) := by decide +kernel
theorem dX12_manyOf_16 : decode cX12_manyOf 16 = .ok (.iadd, 1) := by decide +kernel
theorem dX12_manyOf_17 : decode cX12_manyOf 17 = .ok (.istore_n 1, 1) := by decide +kernel
theorem dX12_manyOf_18 : decode cX12_manyOf 18 = .ok (.iinc 2 1, 3) := by decide +kernel
theorem dX12_manyOf_21 : decode cX12_manyOf 21 = .ok (.goto (-17), 3) := by decide +kernel
theorem dX12_manyOf_24 : decode cX12_manyOf 24 = .ok (.iload_n 1, 1) := by decide +kernel
theorem dX12_manyOf_25 : decode cX12_manyOf 25 = .ok (.ireturn, 1) := by decide +kernel
theorem dX12_ease_0 : decode cX12_ease 0 = .ok (.aload_n 0, 1) := by decide +kernel
theorem dX12_ease_1 : decode cX12_ease 1 = .ok (.iconst 0, 1) := by decide +kernel
theorem dX12_ease_2 : decode cX12_ease 2 = .ok (.putfield 175, 3) := by decide +kernel
theorem dX12_ease_5 : decode cX12_ease 5 = .ok (.aload_n 0, 1) := by decide +kernel
theorem dX12_ease_6 : decode cX12_ease 6 = .ok (.iload_n 1, 1) := by decide +kernel
theorem dX12_ease_7 : decode cX12_ease 7 = .ok (.invokevirtual 492, 3) := by decide +kernel
theorem dX12_ease_10 : decode cX12_ease 10 = .ok (.ifCond .eq 14, 3) := by decide +kernel
theorem dX12_ease_13 : decode cX12_ease 13 = .ok (.iload_n 2, 1) := by decide +kernel
theorem dX12_ease_14 : decode cX12_ease 14 = .ok (.iconst 0, 1) := by decide +kernel
theorem dX12_ease_15 : decode cX12_ease 15 = .ok (.sipush 9999, 3) := by decide +kernel
theorem dX12_ease_18 : decode cX12_ease 18 = .ok (.invokestatic 220, 3) := by decide +kernel
theorem dX12_ease_21 : decode cX12_ease 21 = .ok (.ifCond .ne 5, 3) := by decide +kernel
theorem dX12_ease_24 : decode cX12_ease 24 = .ok (.iconst (-1), 1) := by decide +kernel
theorem dX12_ease_25 : decode cX12_ease 25 = .ok (.ireturn, 1) := by decide +kernel
theorem dX12_ease_26 : decode cX12_ease 26 = .ok (.aload_n 0, 1) := by decide +kernel
theorem dX12_ease_27 : decode cX12_ease 27 = .ok (.getfield 118, 3) := by decide +kernel
theorem dX12_ease_30 : decode cX12_ease 30 = .ok (.iload_n 1, 1) := by decide +kernel
theorem dX12_ease_31 : decode cX12_ease 31 = .ok (.iaload, 1) := by decide +kernel
theorem dX12_ease_32 : decode cX12_ease 32 = .ok (.istore_n 3, 1) := by decide +kernel
theorem dX12_ease_33 : decode cX12_ease 33 = .ok (.bipush (-2), 2) := by decide +kernel
theorem dX12_ease_35 : decode cX12_ease 35 = .ok (.istore 4, 2) := by decide +kernel
theorem dX12_ease_37 : decode cX12_ease 37 = .ok (.iconst 0, 1) := by decide +kernel
theorem dX12_ease_38 : decode cX12_ease 38 = .ok (.istore 5, 2) := by decide +kernel
theorem dX12_ease_40 : decode cX12_ease 40 = .ok (.iload 5, 2) := by decide +kernel
theorem dX12_ease_42 : decode cX12_ease 42 = .ok (.iconst 1, 1) := by decide +kernel
theorem dX12_ease_43 : decode cX12_ease 43 = .ok (.aload_n 0, 1) := by decide +kernel
theorem dX12_ease_44 : decode cX12_ease 44 = .ok (.getfield 115, 3) := by decide +kernel
theorem dX12_ease_47 : decode cX12_ease 47 = .ok (.iload_n 3, 1) := by decide +kernel
theorem dX12_ease_48 : decode cX12_ease 48 = .ok (.iaload, 1) := by decide +kernel
theorem dX12_ease_49 : decode cX12_ease 49 = .ok (.ishl, 1) := by decide +kernel
theorem dX12_ease_50 : decode cX12_ease 50 = .ok (.if_icmp .ge 47, 3) := by decide +kernel
theorem dX12_ease_53 : decode cX12_ease 53 = .ok (.iload 4, 2) := by decide +kernel
theorem dX12_ease_55 : decode cX12_ease 55 = .ok (.ifCond .lt 19, 3) := by decide +kernel
theorem dX12_ease_58 : decode cX12_ease 58 = .ok (.iload 5, 2) := by decide +kernel
theorem dX12_ease_60 : decode cX12_ease 60 = .ok (.invokestatic 531, 3) := by decide +kernel
theorem dX12_ease_63 : decode cX12_ease 63 = .ok (.iload 4, 2) := by decide +kernel
theorem dX12_ease_65 : decode cX12_ease 65 = .ok (.invokestatic 531, 3) := by decide +kernel
theorem dX12_ease_68 : decode cX12_ease 68 = .ok (.if_icmp .lt 6, 3) := by decide +kernel
theorem dX12_ease_71 : decode cX12_ease 71 = .ok (.goto 20, 3) := by decide +kernel
theorem dX12_ease_74 : decode cX12_ease 74 = .ok (.aload_n 0, 1) := by decide +kernel
theorem dX12_ease_75 : decode cX12_ease 75 = .ok (.iconst 0, 1) := by decide +kernel
theorem dX12_ease_76 : decode cX12_ease 76 = .ok (.iload_n 1, 1) := by decide +kernel
theorem dX12_ease_77 : decode cX12_ease 77 = .ok (.iload_n 3, 1) := by decide +kernel
theorem dX12_ease_78 : decode cX12_ease 78 = .ok (.iload 5, 2) := by decide +kernel
theorem dX12_ease_80 : decode cX12_ease 80 = .ok (.invokevirtual 502, 3) := by decide +kernel
theorem dX12_ease_83 : decode cX12_ease 83 = .ok (.iload_n 2, 1) := by decide +kernel
theorem dX12_ease_84 : decode cX12_ease 84 = .ok (.if_icmp .gt 7, 3) := by decide +kernel
theorem dX12_ease_87 : decode cX12_ease 87 = .ok (.iload 5, 2) := by decide +kernel
theorem dX12_ease_89 : decode cX12_ease 89 = .ok (.istore 4, 2) := by decide +kernel
theorem dX12_ease_91 : decode cX12_ease 91 = .ok (.iinc 5 1, 3) := by decide +kernel
theorem dX12_ease_94 : decode cX12_ease 94 = .ok (.goto (-54), 3) := by decide +kernel
theorem dX12_ease_97 : decode cX12_ease 97 = .ok (.iload 4, 2) := by decide +kernel
theorem dX12_ease_99 : decode cX12_ease 99 = .ok (.ireturn, 1) := by decide +kernel
theorem dX12_matchAt_0 : decode cX12_matchAt 0 = .ok (.sipush 256, 3) := by decide +kernel
theorem dX12_matchAt_3 : decode cX12_matchAt 3 = .ok (.iload_n 1, 1) := by decide +kernel
theorem dX12_matchAt_4 : decode cX12_matchAt 4 = .ok (.imul, 1) := by decide +kernel
theorem dX12_matchAt_5 : decode cX12_matchAt 5 = .ok (.iload_n 2, 1) := by decide +kernel
theorem dX12_matchAt_6 : decode cX12_matchAt 6 = .ok (.iadd, 1) := by decide +kernel
theorem dX12_matchAt_7 : decode cX12_matchAt 7 = .ok (.ireturn, 1) := by decide +kernel
theorem dX12_layMatch_0 : decode cX12_layMatch 0 = .ok (.iconst 0, 1) := by decide +kernel
theorem dX12_layMatch_1 : decode cX12_layMatch 1 = .ok (.istore_n 1, 1) := by decide +kernel
theorem dX12_layMatch_2 : decode cX12_layMatch 2 = .ok (.iload_n 1, 1) := by decide +kernel
theorem dX12_layMatch_3 : decode cX12_layMatch 3 = .ok (.aload_n 0, 1) := by decide +kernel
theorem dX12_layMatch_4 : decode cX12_layMatch 4 = .ok (.getfield 258, 3) := by decide +kernel
theorem dX12_layMatch_7 : decode cX12_layMatch 7 = .ok (.if_icmp .ge 44, 3) := by decide +kernel
theorem dX12_layMatch_10 : decode cX12_layMatch 10 = .ok (.iconst 0, 1) := by decide +kernel
theorem dX12_layMatch_11 : decode cX12_layMatch 11 = .ok (.istore_n 2, 1) := by decide +kernel
theorem dX12_layMatch_12 : decode cX12_layMatch 12 = .ok (.iload_n 2, 1) := by decide +kernel
theorem dX12_layMatch_13 : decode cX12_layMatch 13 = .ok (.aload_n 0, 1) := by decide +kernel
theorem dX12_layMatch_14 : decode cX12_layMatch 14 = .ok (.getfield 261, 3) := by decide +kernel
theorem dX12_layMatch_17 : decode cX12_layMatch 17 = .ok (.if_icmp .ge 28, 3) := by decide +kernel
theorem dX12_layMatch_20 : decode cX12_layMatch 20 = .ok (.aload_n 0, 1) := by decide +kernel
theorem dX12_layMatch_21 : decode cX12_layMatch 21 = .ok (.getfield 142, 3) := by decide +kernel
theorem dX12_layMatch_24 : decode cX12_layMatch 24 = .ok (.bipush 8, 2) := by decide +kernel
theorem dX12_layMatch_26 : decode cX12_layMatch 26 = .ok (.iload_n 1, 1) := by decide +kernel
theorem dX12_layMatch_27 : decode cX12_layMatch 27 = .ok (.imul, 1) := by decide +kernel
theorem dX12_layMatch_28 : decode cX12_layMatch 28 = .ok (.iload_n 2, 1) := by decide +kernel
theorem dX12_layMatch_29 : decode cX12_layMatch 29 = .ok (.iadd, 1) := by decide +kernel
theorem dX12_layMatch_30 : decode cX12_layMatch 30 = .ok (.aload_n 0, 1) := by decide +kernel
theorem dX12_layMatch_31 : decode cX12_layMatch 31 = .ok (.iconst 0, 1) := by decide +kernel
theorem dX12_layMatch_32 : decode cX12_layMatch 32 = .ok (.iload_n 2, 1) := by decide +kernel
theorem dX12_layMatch_33 : decode cX12_layMatch 33 = .ok (.iload_n 1, 1) := by decide +kernel
theorem dX12_layMatch_34 : decode cX12_layMatch 34 = .ok (.iconst 0, 1) := by decide +kernel
theorem dX12_layMatch_35 : decode cX12_layMatch 35 = .ok (.invokevirtual 502, 3) := by decide +kernel
theorem dX12_layMatch_38 : decode cX12_layMatch 38 = .ok (.iastore, 1) := by decide +kernel
theorem dX12_layMatch_39 : decode cX12_layMatch 39 = .ok (.iinc 2 1, 3) := by decide +kernel
theorem dX12_layMatch_42 : decode cX12_layMatch 42 = .ok (.goto (-30), 3) := by decide +kernel
theorem dX12_layMatch_45 : decode cX12_layMatch 45 = .ok (.iinc 1 1, 3) := by decide +kernel
theorem dX12_layMatch_48 : decode cX12_layMatch 48 = .ok (.goto (-46), 3) := by decide +kernel
theorem dX12_layMatch_51 : decode cX12_layMatch 51 = .ok (.iconst 0, 1) := by decide +kernel
theorem dX12_layMatch_52 : decode cX12_layMatch 52 = .ok (.istore_n 1, 1) := by decide +kernel
theorem dX12_layMatch_53 : decode cX12_layMatch 53 = .ok (.iload_n 1, 1) := by decide +kernel
theorem dX12_layMatch_54 : decode cX12_layMatch 54 = .ok (.sipush 256, 3) := by decide +kernel
theorem dX12_layMatch_57 : decode cX12_layMatch 57 = .ok (.if_icmp .ge 39, 3) := by decide +kernel
theorem dX12_layMatch_60 : decode cX12_layMatch 60 = .ok (.aload_n 0, 1) := by decide +kernel
theorem dX12_layMatch_61 : decode cX12_layMatch 61 = .ok (.getfield 136, 3) := by decide +kernel
theorem dX12_layMatch_64 : decode cX12_layMatch 64 = .ok (.aload_n 0, 1) := by decide +kernel
theorem dX12_layMatch_65 : decode cX12_layMatch 65 = .ok (.aload_n 0, 1) := by decide +kernel
theorem dX12_layMatch_66 : decode cX12_layMatch 66 = .ok (.getfield 258, 3) := by decide +kernel
theorem dX12_layMatch_69 : decode cX12_layMatch 69 = .ok (.iload_n 1, 1) := by decide +kernel
theorem dX12_layMatch_70 : decode cX12_layMatch 70 = .ok (.invokevirtual 534, 3) := by decide +kernel
theorem dX12_layMatch_73 : decode cX12_layMatch 73 = .ok (.iconst 0, 1) := by decide +kernel
theorem dX12_layMatch_74 : decode cX12_layMatch 74 = .ok (.iastore, 1) := by decide +kernel
theorem dX12_layMatch_75 : decode cX12_layMatch 75 = .ok (.aload_n 0, 1) := by decide +kernel
theorem dX12_layMatch_76 : decode cX12_layMatch 76 = .ok (.getfield 139, 3) := by decide +kernel
theorem dX12_layMatch_79 : decode cX12_layMatch 79 = .ok (.aload_n 0, 1) := by decide +kernel
theorem dX12_layMatch_80 : decode cX12_layMatch 80 = .ok (.aload_n 0, 1) := by decide +kernel
theorem dX12_layMatch_81 : decode cX12_layMatch 81 = .ok (.getfield 258, 3) := by decide +kernel
theorem dX12_layMatch_84 : decode cX12_layMatch 84 = .ok (.iload_n 1, 1) := by decide +kernel
theorem dX12_layMatch_85 : decode cX12_layMatch 85 = .ok (.invokevirtual 534, 3) := by decide +kernel
theorem dX12_layMatch_88 : decode cX12_layMatch 88 = .ok (.iconst 0, 1) := by decide +kernel
theorem dX12_layMatch_89 : decode cX12_layMatch 89 = .ok (.iastore, 1) := by decide +kernel
theorem dX12_layMatch_90 : decode cX12_layMatch 90 = .ok (.iinc 1 1, 3) := by decide +kernel
theorem dX12_layMatch_93 : decode cX12_layMatch 93 = .ok (.goto (-40), 3) := by decide +kernel
theorem dX12_layMatch_96 : decode cX12_layMatch 96 = .ok (.aload_n 0, 1) := by decide +kernel
theorem dX12_layMatch_97 : decode cX12_layMatch 97 = .ok (.getfield 258, 3) := by decide +kernel
theorem dX12_layMatch_100 : decode cX12_layMatch 100 = .ok (.iconst 1, 1) := by decide +kernel
theorem dX12_layMatch_101 : decode cX12_layMatch 101 = .ok (.isub, 1) := by decide +kernel
theorem dX12_layMatch_102 : decode cX12_layMatch 102 = .ok (.istore_n 1, 1) := by decide +kernel
theorem dX12_layMatch_103 : decode cX12_layMatch 103 = .ok (.iload_n 1, 1) := by decide +kernel
theorem dX12_layMatch_104 : decode cX12_layMatch 104 = .ok (.ifCond .lt 209, 3) := by decide +kernel
theorem dX12_layMatch_107 : decode cX12_layMatch 107 = .ok (.iconst 0, 1) := by decide +kernel
theorem dX12_layMatch_108 : decode cX12_layMatch 108 = .ok (.istore_n 2, 1) := by decide +kernel
theorem dX12_layMatch_109 : decode cX12_layMatch 109 = .ok (.iload_n 2, 1) := by decide +kernel
theorem dX12_layMatch_110 : decode cX12_layMatch 110 = .ok (.sipush 256, 3) := by decide +kernel
theorem dX12_layMatch_113 : decode cX12_layMatch 113 = .ok (.if_icmp .ge 194, 3) := by decide +kernel
theorem dX12_layMatch_116 : decode cX12_layMatch 116 = .ok (.aload_n 0, 1) := by decide +kernel
theorem dX12_layMatch_117 : decode cX12_layMatch 117 = .ok (.iload_n 1, 1) := by decide +kernel
theorem dX12_layMatch_118 : decode cX12_layMatch 118 = .ok (.iload_n 2, 1) := by decide +kernel
theorem dX12_layMatch_119 : decode cX12_layMatch 119 = .ok (.invokevirtual 534, 3) := by decide +kernel
theorem dX12_layMatch_122 : decode cX12_layMatch 122 = .ok (.istore_n 3, 1) := by decide +kernel
theorem dX12_layMatch_123 : decode cX12_layMatch 123 = .ok (.aload_n 0, 1) := by decide +kernel
theorem dX12_layMatch_124 : decode cX12_layMatch 124 = .ok (.getfield 136, 3) := by decide +kernel
theorem dX12_layMatch_127 : decode cX12_layMatch 127 = .ok (.iload_n 3, 1) := by decide +kernel
theorem dX12_layMatch_128 : decode cX12_layMatch 128 = .ok (.aload_n 0, 1) := by decide +kernel
theorem dX12_layMatch_129 : decode cX12_layMatch 129 = .ok (.getfield 136, 3) := by decide +kernel
theorem dX12_layMatch_132 : decode cX12_layMatch 132 = .ok (.aload_n 0, 1) := by decide +kernel
theorem dX12_layMatch_133 : decode cX12_layMatch 133 = .ok (.iload_n 1, 1) := by decide +kernel
theorem dX12_layMatch_134 : decode cX12_layMatch 134 = .ok (.iconst 1, 1) := by decide +kernel
theorem dX12_layMatch_135 : decode cX12_layMatch 135 = .ok (.iadd, 1) := by decide +kernel
theorem dX12_layMatch_136 : decode cX12_layMatch 136 = .ok (.iload_n 2, 1) := by decide +kernel
theorem dX12_layMatch_137 : decode cX12_layMatch 137 = .ok (.invokevirtual 534, 3) := by decide +kernel
theorem dX12_layMatch_140 : decode cX12_layMatch 140 = .ok (.iaload, 1) := by decide +kernel
theorem dX12_layMatch_141 : decode cX12_layMatch 141 = .ok (.iastore, 1) := by decide +kernel
theorem dX12_layMatch_142 : decode cX12_layMatch 142 = .ok (.aload_n 0, 1) := by decide +kernel
theorem dX12_layMatch_143 : decode cX12_layMatch 143 = .ok (.getfield 139, 3) := by decide +kernel
theorem dX12_layMatch_146 : decode cX12_layMatch 146 = .ok (.iload_n 3, 1) := by decide +kernel
theorem dX12_layMatch_147 : decode cX12_layMatch 147 = .ok (.aload_n 0, 1) := by decide +kernel
theorem dX12_layMatch_148 : decode cX12_layMatch 148 = .ok (.getfield 139, 3) := by decide +kernel
theorem dX12_layMatch_151 : decode cX12_layMatch 151 = .ok (.aload_n 0, 1) := by decide +kernel
theorem dX12_layMatch_152 : decode cX12_layMatch 152 = .ok (.iload_n 1, 1) := by decide +kernel
theorem dX12_layMatch_153 : decode cX12_layMatch 153 = .ok (.iconst 1, 1) := by decide +kernel
theorem dX12_layMatch_154 : decode cX12_layMatch 154 = .ok (.iadd, 1) := by decide +kernel
theorem dX12_layMatch_155 : decode cX12_layMatch 155 = .ok (.iload_n 2, 1) := by decide +kernel
theorem dX12_layMatch_156 : decode cX12_layMatch 156 = .ok (.invokevirtual 534, 3) := by decide +kernel
theorem dX12_layMatch_159 : decode cX12_layMatch 159 = .ok (.iaload, 1) := by decide +kernel
theorem dX12_layMatch_160 : decode cX12_layMatch 160 = .ok (.iastore, 1) := by decide +kernel
theorem dX12_layMatch_161 : decode cX12_layMatch 161 = .ok (.iconst 0, 1) := by decide +kernel
theorem dX12_layMatch_162 : decode cX12_layMatch 162 = .ok (.istore 4, 2) := by decide +kernel
theorem dX12_layMatch_164 : decode cX12_layMatch 164 = .ok (.iload 4, 2) := by decide +kernel
theorem dX12_layMatch_166 : decode cX12_layMatch 166 = .ok (.aload_n 0, 1) := by decide +kernel
theorem dX12_layMatch_167 : decode cX12_layMatch 167 = .ok (.getfield 261, 3) := by decide +kernel
theorem dX12_layMatch_170 : decode cX12_layMatch 170 = .ok (.if_icmp .ge 131, 3) := by decide +kernel
theorem dX12_layMatch_173 : decode cX12_layMatch 173 = .ok (.iload_n 2, 1) := by decide +kernel
theorem dX12_layMatch_174 : decode cX12_layMatch 174 = .ok (.iload 4, 2) := by decide +kernel
theorem dX12_layMatch_176 : decode cX12_layMatch 176 = .ok (.invokestatic 426, 3) := by decide +kernel
theorem dX12_layMatch_179 : decode cX12_layMatch 179 = .ok (.ifCond .eq 6, 3) := by decide +kernel
theorem dX12_layMatch_182 : decode cX12_layMatch 182 = .ok (.goto 113, 3) := by decide +kernel
theorem dX12_layMatch_185 : decode cX12_layMatch 185 = .ok (.aload_n 0, 1) := by decide +kernel
theorem dX12_layMatch_186 : decode cX12_layMatch 186 = .ok (.iload_n 1, 1) := by decide +kernel
theorem dX12_layMatch_187 : decode cX12_layMatch 187 = .ok (.iconst 1, 1) := by decide +kernel
theorem dX12_layMatch_188 : decode cX12_layMatch 188 = .ok (.iadd, 1) := by decide +kernel
theorem dX12_layMatch_189 : decode cX12_layMatch 189 = .ok (.iload_n 2, 1) := by decide +kernel
theorem dX12_layMatch_190 : decode cX12_layMatch 190 = .ok (.iconst 1, 1) := by decide +kernel
theorem dX12_layMatch_191 : decode cX12_layMatch 191 = .ok (.iload 4, 2) := by decide +kernel
theorem dX12_layMatch_193 : decode cX12_layMatch 193 = .ok (.ishl, 1) := by decide +kernel
theorem dX12_layMatch_194 : decode cX12_layMatch 194 = .ok (.ior, 1) := by decide +kernel
theorem dX12_layMatch_195 : decode cX12_layMatch 195 = .ok (.invokevirtual 534, 3) := by decide +kernel
theorem dX12_layMatch_198 : decode cX12_layMatch 198 = .ok (.istore 5, 2) := by decide +kernel
theorem dX12_layMatch_200 : decode cX12_layMatch 200 = .ok (.aload_n 0, 1) := by decide +kernel
theorem dX12_layMatch_201 : decode cX12_layMatch 201 = .ok (.getfield 139, 3) := by decide +kernel
theorem dX12_layMatch_204 : decode cX12_layMatch 204 = .ok (.iload 5, 2) := by decide +kernel
theorem dX12_layMatch_206 : decode cX12_layMatch 206 = .ok (.iaload, 1) := by decide +kernel
theorem dX12_layMatch_207 : decode cX12_layMatch 207 = .ok (.aload_n 0, 1) := by decide +kernel
theorem dX12_layMatch_208 : decode cX12_layMatch 208 = .ok (.getfield 142, 3) := by decide +kernel
theorem dX12_layMatch_211 : decode cX12_layMatch 211 = .ok (.bipush 8, 2) := by decide +kernel
theorem dX12_layMatch_213 : decode cX12_layMatch 213 = .ok (.iload_n 1, 1) := by decide +kernel
theorem dX12_layMatch_214 : decode cX12_layMatch 214 = .ok (.imul, 1) := by decide +kernel
theorem dX12_layMatch_215 : decode cX12_layMatch 215 = .ok (.iload 4, 2) := by decide +kernel
theorem dX12_layMatch_217 : decode cX12_layMatch 217 = .ok (.iadd, 1) := by decide +kernel
theorem dX12_layMatch_218 : decode cX12_layMatch 218 = .ok (.iaload, 1) := by decide +kernel
theorem dX12_layMatch_219 : decode cX12_layMatch 219 = .ok (.iadd, 1) := by decide +kernel
theorem dX12_layMatch_220 : decode cX12_layMatch 220 = .ok (.istore 6, 2) := by decide +kernel
theorem dX12_layMatch_222 : decode cX12_layMatch 222 = .ok (.aload_n 0, 1) := by decide +kernel
theorem dX12_layMatch_223 : decode cX12_layMatch 223 = .ok (.getfield 136, 3) := by decide +kernel
theorem dX12_layMatch_226 : decode cX12_layMatch 226 = .ok (.iload 5, 2) := by decide +kernel
theorem dX12_layMatch_228 : decode cX12_layMatch 228 = .ok (.iaload, 1) := by decide +kernel
theorem dX12_layMatch_229 : decode cX12_layMatch 229 = .ok (.iconst 1, 1) := by decide +kernel
theorem dX12_layMatch_230 : decode cX12_layMatch 230 = .ok (.iadd, 1) := by decide +kernel
theorem dX12_layMatch_231 : decode cX12_layMatch 231 = .ok (.aload_n 0, 1) := by decide +kernel
theorem dX12_layMatch_232 : decode cX12_layMatch 232 = .ok (.getfield 136, 3) := by decide +kernel
theorem dX12_layMatch_235 : decode cX12_layMatch 235 = .ok (.iload_n 3, 1) := by decide +kernel
theorem dX12_layMatch_236 : decode cX12_layMatch 236 = .ok (.iaload, 1) := by decide +kernel
theorem dX12_layMatch_237 : decode cX12_layMatch 237 = .ok (.if_icmp .lt 58, 3) := by decide +kernel
theorem dX12_layMatch_240 : decode cX12_layMatch 240 = .ok (.aload_n 0, 1) := by decide +kernel
theorem dX12_layMatch_241 : decode cX12_layMatch 241 = .ok (.getfield 136, 3) := by decide +kernel
theorem dX12_layMatch_244 : decode cX12_layMatch 244 = .ok (.iload 5, 2) := by decide +kernel
theorem dX12_layMatch_246 : decode cX12_layMatch 246 = .ok (.iaload, 1) := by decide +kernel
theorem dX12_layMatch_247 : decode cX12_layMatch 247 = .ok (.iconst 1, 1) := by decide +kernel
theorem dX12_layMatch_248 : decode cX12_layMatch 248 = .ok (.iadd, 1) := by decide +kernel
theorem dX12_layMatch_249 : decode cX12_layMatch 249 = .ok (.aload_n 0, 1) := by decide +kernel
theorem dX12_layMatch_250 : decode cX12_layMatch 250 = .ok (.getfield 136, 3) := by decide +kernel
theorem dX12_layMatch_253 : decode cX12_layMatch 253 = .ok (.iload_n 3, 1) := by decide +kernel
theorem dX12_layMatch_254 : decode cX12_layMatch 254 = .ok (.iaload, 1) := by decide +kernel
theorem dX12_layMatch_255 : decode cX12_layMatch 255 = .ok (.if_icmp .ne 17, 3) := by decide +kernel
theorem dX12_layMatch_258 : decode cX12_layMatch 258 = .ok (.iload 6, 2) := by decide +kernel
theorem dX12_layMatch_260 : decode cX12_layMatch 260 = .ok (.aload_n 0, 1) := by decide +kernel
theorem dX12_layMatch_261 : decode cX12_layMatch 261 = .ok (.getfield 139, 3) := by decide +kernel
theorem dX12_layMatch_264 : decode cX12_layMatch 264 = .ok (.iload_n 3, 1) := by decide +kernel
theorem dX12_layMatch_265 : decode cX12_layMatch 265 = .ok (.iaload, 1) := by decide +kernel
theorem dX12_layMatch_266 : decode cX12_layMatch 266 = .ok (.if_icmp .lt 6, 3) := by decide +kernel
theorem dX12_layMatch_269 : decode cX12_layMatch 269 = .ok (.goto 26, 3) := by decide +kernel
theorem dX12_layMatch_272 : decode cX12_layMatch 272 = .ok (.aload_n 0, 1) := by decide +kernel
theorem dX12_layMatch_273 : decode cX12_layMatch 273 = .ok (.getfield 136, 3) := by decide +kernel
theorem dX12_layMatch_276 : decode cX12_layMatch 276 = .ok (.iload_n 3, 1) := by decide +kernel
theorem dX12_layMatch_277 : decode cX12_layMatch 277 = .ok (.aload_n 0, 1) := by decide +kernel
theorem dX12_layMatch_278 : decode cX12_layMatch 278 = .ok (.getfield 136, 3) := by decide +kernel
theorem dX12_layMatch_281 : decode cX12_layMatch 281 = .ok (.iload 5, 2) := by decide +kernel
theorem dX12_layMatch_283 : decode cX12_layMatch 283 = .ok (.iaload, 1) := by decide +kernel
theorem dX12_layMatch_284 : decode cX12_layMatch 284 = .ok (.iconst 1, 1) := by decide +kernel
theorem dX12_layMatch_285 : decode cX12_layMatch 285 = .ok (.iadd, 1) := by decide +kernel
theorem dX12_layMatch_286 : decode cX12_layMatch 286 = .ok (.iastore, 1) := by decide +kernel
theorem dX12_layMatch_287 : decode cX12_layMatch 287 = .ok (.aload_n 0, 1) := by decide +kernel
theorem dX12_layMatch_288 : decode cX12_layMatch 288 = .ok (.getfield 139, 3) := by decide +kernel
theorem dX12_layMatch_291 : decode cX12_layMatch 291 = .ok (.iload_n 3, 1) := by decide +kernel
theorem dX12_layMatch_292 : decode cX12_layMatch 292 = .ok (.iload 6, 2) := by decide +kernel
theorem dX12_layMatch_294 : decode cX12_layMatch 294 = .ok (.iastore, 1) := by decide +kernel
theorem dX12_layMatch_295 : decode cX12_layMatch 295 = .ok (.iinc 4 1, 3) := by decide +kernel
theorem dX12_layMatch_298 : decode cX12_layMatch 298 = .ok (.goto (-134), 3) := by decide +kernel
theorem dX12_layMatch_301 : decode cX12_layMatch 301 = .ok (.iinc 2 1, 3) := by decide +kernel
theorem dX12_layMatch_304 : decode cX12_layMatch 304 = .ok (.goto (-195), 3) := by decide +kernel
theorem dX12_layMatch_307 : decode cX12_layMatch 307 = .ok (.iinc 1 (-1), 3) := by decide +kernel
theorem dX12_layMatch_310 : decode cX12_layMatch 310 = .ok (.goto (-207), 3) := by decide +kernel
theorem dX12_layMatch_313 : decode cX12_layMatch 313 = .ok (.return_, 1) := by decide +kernel
theorem dX12_whoFor_0 : decode cX12_whoFor 0 = .ok (.aload_n 0, 1) := by decide +kernel
theorem dX12_whoFor_1 : decode cX12_whoFor 1 = .ok (.iload_n 1, 1) := by decide +kernel
theorem dX12_whoFor_2 : decode cX12_whoFor 2 = .ok (.iload_n 2, 1) := by decide +kernel
theorem dX12_whoFor_3 : decode cX12_whoFor 3 = .ok (.invokevirtual 534, 3) := by decide +kernel
theorem dX12_whoFor_6 : decode cX12_whoFor 6 = .ok (.istore_n 3, 1) := by decide +kernel
theorem dX12_whoFor_7 : decode cX12_whoFor 7 = .ok (.iconst 0, 1) := by decide +kernel
theorem dX12_whoFor_8 : decode cX12_whoFor 8 = .ok (.istore 4, 2) := by decide +kernel
theorem dX12_whoFor_10 : decode cX12_whoFor 10 = .ok (.iload 4, 2) := by decide +kernel
theorem dX12_whoFor_12 : decode cX12_whoFor 12 = .ok (.aload_n 0, 1) := by decide +kernel
theorem dX12_whoFor_13 : decode cX12_whoFor 13 = .ok (.getfield 261, 3) := by decide +kernel
theorem dX12_whoFor_16 : decode cX12_whoFor 16 = .ok (.if_icmp .ge 86, 3) := by decide +kernel
theorem dX12_whoFor_19 : decode cX12_whoFor 19 = .ok (.iload_n 2, 1) := by decide +kernel
theorem dX12_whoFor_20 : decode cX12_whoFor 20 = .ok (.iload 4, 2) := by decide +kernel
theorem dX12_whoFor_22 : decode cX12_whoFor 22 = .ok (.invokestatic 426, 3) := by decide +kernel
theorem dX12_whoFor_25 : decode cX12_whoFor 25 = .ok (.ifCond .eq 6, 3) := by decide +kernel
theorem dX12_whoFor_28 : decode cX12_whoFor 28 = .ok (.goto 68, 3) := by decide +kernel
theorem dX12_whoFor_31 : decode cX12_whoFor 31 = .ok (.aload_n 0, 1) := by decide +kernel
theorem dX12_whoFor_32 : decode cX12_whoFor 32 = .ok (.iload_n 1, 1) := by decide +kernel
theorem dX12_whoFor_33 : decode cX12_whoFor 33 = .ok (.iconst 1, 1) := by decide +kernel
theorem dX12_whoFor_34 : decode cX12_whoFor 34 = .ok (.iadd, 1) := by decide +kernel
theorem dX12_whoFor_35 : decode cX12_whoFor 35 = .ok (.iload_n 2, 1) := by decide +kernel
theorem dX12_whoFor_36 : decode cX12_whoFor 36 = .ok (.iconst 1, 1) := by decide +kernel
theorem dX12_whoFor_37 : decode cX12_whoFor 37 = .ok (.iload 4, 2) := by decide +kernel
theorem dX12_whoFor_39 : decode cX12_whoFor 39 = .ok (.ishl, 1) := by decide +kernel
theorem dX12_whoFor_40 : decode cX12_whoFor 40 = .ok (.ior, 1) := by decide +kernel
theorem dX12_whoFor_41 : decode cX12_whoFor 41 = .ok (.invokevirtual 534, 3) := by decide +kernel
theorem dX12_whoFor_44 : decode cX12_whoFor 44 = .ok (.istore 5, 2) := by decide +kernel
theorem dX12_whoFor_46 : decode cX12_whoFor 46 = .ok (.aload_n 0, 1) := by decide +kernel
theorem dX12_whoFor_47 : decode cX12_whoFor 47 = .ok (.getfield 136, 3) := by decide +kernel
theorem dX12_whoFor_50 : decode cX12_whoFor 50 = .ok (.iload 5, 2) := by decide +kernel
theorem dX12_whoFor_52 : decode cX12_whoFor 52 = .ok (.iaload, 1) := by decide +kernel
theorem dX12_whoFor_53 : decode cX12_whoFor 53 = .ok (.iconst 1, 1) := by decide +kernel
theorem dX12_whoFor_54 : decode cX12_whoFor 54 = .ok (.iadd, 1) := by decide +kernel
theorem dX12_whoFor_55 : decode cX12_whoFor 55 = .ok (.aload_n 0, 1) := by decide +kernel
theorem dX12_whoFor_56 : decode cX12_whoFor 56 = .ok (.getfield 136, 3) := by decide +kernel
theorem dX12_whoFor_59 : decode cX12_whoFor 59 = .ok (.iload_n 3, 1) := by decide +kernel
theorem dX12_whoFor_60 : decode cX12_whoFor 60 = .ok (.iaload, 1) := by decide +kernel
theorem dX12_whoFor_61 : decode cX12_whoFor 61 = .ok (.if_icmp .ne 35, 3) := by decide +kernel
theorem dX12_whoFor_64 : decode cX12_whoFor 64 = .ok (.aload_n 0, 1) := by decide +kernel
theorem dX12_whoFor_65 : decode cX12_whoFor 65 = .ok (.getfield 139, 3) := by decide +kernel
theorem dX12_whoFor_68 : decode cX12_whoFor 68 = .ok (.iload 5, 2) := by decide +kernel
theorem dX12_whoFor_70 : decode cX12_whoFor 70 = .ok (.iaload, 1) := by decide +kernel
theorem dX12_whoFor_71 : decode cX12_whoFor 71 = .ok (.aload_n 0, 1) := by decide +kernel
theorem dX12_whoFor_72 : decode cX12_whoFor 72 = .ok (.getfield 142, 3) := by decide +kernel
theorem dX12_whoFor_75 : decode cX12_whoFor 75 = .ok (.bipush 8, 2) := by decide +kernel
theorem dX12_whoFor_77 : decode cX12_whoFor 77 = .ok (.iload_n 1, 1) := by decide +kernel
theorem dX12_whoFor_78 : decode cX12_whoFor 78 = .ok (.imul, 1) := by decide +kernel
theorem dX12_whoFor_79 : decode cX12_whoFor 79 = .ok (.iload 4, 2) := by decide +kernel
theorem dX12_whoFor_81 : decode cX12_whoFor 81 = .ok (.iadd, 1) := by decide +kernel
theorem dX12_whoFor_82 : decode cX12_whoFor 82 = .ok (.iaload, 1) := by decide +kernel
theorem dX12_whoFor_83 : decode cX12_whoFor 83 = .ok (.iadd, 1) := by decide +kernel
theorem dX12_whoFor_84 : decode cX12_whoFor 84 = .ok (.aload_n 0, 1) := by decide +kernel
theorem dX12_whoFor_85 : decode cX12_whoFor 85 = .ok (.getfield 139, 3) := by decide +kernel
theorem dX12_whoFor_88 : decode cX12_whoFor 88 = .ok (.iload_n 3, 1) := by decide +kernel
theorem dX12_whoFor_89 : decode cX12_whoFor 89 = .ok (.iaload, 1) := by decide +kernel
theorem dX12_whoFor_90 : decode cX12_whoFor 90 = .ok (.if_icmp .ne 6, 3) := by decide +kernel
theorem dX12_whoFor_93 : decode cX12_whoFor 93 = .ok (.iload 4, 2) := by decide +kernel
theorem dX12_whoFor_95 : decode cX12_whoFor 95 = .ok (.ireturn, 1) := by decide +kernel
theorem dX12_whoFor_96 : decode cX12_whoFor 96 = .ok (.iinc 4 1, 3) := by decide +kernel
theorem dX12_whoFor_99 : decode cX12_whoFor 99 = .ok (.goto (-89), 3) := by decide +kernel
theorem dX12_whoFor_102 : decode cX12_whoFor 102 = .ok (.iconst (-1), 1) := by decide +kernel
theorem dX12_whoFor_103 : decode cX12_whoFor 103 = .ok (.ireturn, 1) := by decide +kernel
theorem dX12_match_0 : decode cX12_match 0 = .ok (.aload_n 0, 1) := by decide +kernel
theorem dX12_match_1 : decode cX12_match 1 = .ok (.iconst 0, 1) := by decide +kernel
theorem dX12_match_2 : decode cX12_match 2 = .ok (.putfield 175, 3) := by decide +kernel
theorem dX12_match_5 : decode cX12_match 5 = .ok (.iload_n 1, 1) := by decide +kernel
theorem dX12_match_6 : decode cX12_match 6 = .ok (.iconst 0, 1) := by decide +kernel
theorem dX12_match_7 : decode cX12_match 7 = .ok (.bipush 7, 2) := by decide +kernel
theorem dX12_match_9 : decode cX12_match 9 = .ok (.invokestatic 220, 3) := by decide +kernel
theorem dX12_match_12 : decode cX12_match 12 = .ok (.ifCond .ne 5, 3) := by decide +kernel
theorem dX12_match_15 : decode cX12_match 15 = .ok (.iconst (-1), 1) := by decide +kernel
theorem dX12_match_16 : decode cX12_match 16 = .ok (.ireturn, 1) := by decide +kernel
theorem dX12_match_17 : decode cX12_match 17 = .ok (.iload_n 1, 1) := by decide +kernel
theorem dX12_match_18 : decode cX12_match 18 = .ok (.bipush 6, 2) := by decide +kernel
theorem dX12_match_20 : decode cX12_match 20 = .ok (.if_icmp .ge 14, 3) := by decide +kernel
theorem dX12_match_23 : decode cX12_match 23 = .ok (.iload_n 1, 1) := by decide +kernel
theorem dX12_match_24 : decode cX12_match 24 = .ok (.aload_n 0, 1) := by decide +kernel
theorem dX12_match_25 : decode cX12_match 25 = .ok (.getfield 258, 3) := by decide +kernel
theorem dX12_match_28 : decode cX12_match 28 = .ok (.if_icmp .lt 6, 3) := by decide +kernel
theorem dX12_match_31 : decode cX12_match 31 = .ok (.bipush (-2), 2) := by decide +kernel
theorem dX12_match_33 : decode cX12_match 33 = .ok (.ireturn, 1) := by decide +kernel
theorem dX12_match_34 : decode cX12_match 34 = .ok (.aload_n 0, 1) := by decide +kernel
theorem dX12_match_35 : decode cX12_match 35 = .ok (.invokevirtual 537, 3) := by decide +kernel
theorem dX12_match_38 : decode cX12_match 38 = .ok (.iload_n 1, 1) := by decide +kernel
theorem dX12_match_39 : decode cX12_match 39 = .ok (.iconst 5, 1) := by decide +kernel
theorem dX12_match_40 : decode cX12_match 40 = .ok (.if_icmp .le 25, 3) := by decide +kernel
theorem dX12_match_43 : decode cX12_match 43 = .ok (.iload_n 1, 1) := by decide +kernel
theorem dX12_match_44 : decode cX12_match 44 = .ok (.bipush 6, 2) := by decide +kernel
theorem dX12_match_46 : decode cX12_match 46 = .ok (.if_icmp .ne 12, 3) := by decide +kernel
theorem dX12_match_49 : decode cX12_match 49 = .ok (.aload_n 0, 1) := by decide +kernel
theorem dX12_match_50 : decode cX12_match 50 = .ok (.getfield 136, 3) := by decide +kernel
theorem dX12_match_53 : decode cX12_match 53 = .ok (.iconst 0, 1) := by decide +kernel
theorem dX12_match_54 : decode cX12_match 54 = .ok (.iaload, 1) := by decide +kernel
theorem dX12_match_55 : decode cX12_match 55 = .ok (.goto 9, 3) := by decide +kernel
theorem dX12_match_58 : decode cX12_match 58 = .ok (.aload_n 0, 1) := by decide +kernel
theorem dX12_match_59 : decode cX12_match 59 = .ok (.getfield 139, 3) := by decide +kernel
theorem dX12_match_62 : decode cX12_match 62 = .ok (.iconst 0, 1) := by decide +kernel
theorem dX12_match_63 : decode cX12_match 63 = .ok (.iaload, 1) := by decide +kernel
theorem dX12_match_64 : decode cX12_match 64 = .ok (.ireturn, 1) := by decide +kernel
theorem dX12_match_65 : decode cX12_match 65 = .ok (.iconst 0, 1) := by decide +kernel
theorem dX12_match_66 : decode cX12_match 66 = .ok (.istore_n 2, 1) := by decide +kernel
theorem dX12_match_67 : decode cX12_match 67 = .ok (.iconst 0, 1) := by decide +kernel
theorem dX12_match_68 : decode cX12_match 68 = .ok (.istore_n 3, 1) := by decide +kernel
theorem dX12_match_69 : decode cX12_match 69 = .ok (.iload_n 3, 1) := by decide +kernel
theorem dX12_match_70 : decode cX12_match 70 = .ok (.iload_n 1, 1) := by decide +kernel
theorem dX12_match_71 : decode cX12_match 71 = .ok (.if_icmp .ge 33, 3) := by decide +kernel
theorem dX12_match_74 : decode cX12_match 74 = .ok (.aload_n 0, 1) := by decide +kernel
theorem dX12_match_75 : decode cX12_match 75 = .ok (.iload_n 3, 1) := by decide +kernel
theorem dX12_match_76 : decode cX12_match 76 = .ok (.iload_n 2, 1) := by decide +kernel
theorem dX12_match_77 : decode cX12_match 77 = .ok (.invokevirtual 540, 3) := by decide +kernel
theorem dX12_match_80 : decode cX12_match 80 = .ok (.istore 4, 2) := by decide +kernel
theorem dX12_match_82 : decode cX12_match 82 = .ok (.iload_n 2, 1) := by decide +kernel
theorem dX12_match_83 : decode cX12_match 83 = .ok (.iload 4, 2) := by decide +kernel
theorem dX12_match_85 : decode cX12_match 85 = .ok (.ifCond .ge 7, 3) := by decide +kernel
theorem dX12_match_88 : decode cX12_match 88 = .ok (.iconst 0, 1) := by decide +kernel
theorem dX12_match_89 : decode cX12_match 89 = .ok (.goto 7, 3) := by decide +kernel
theorem dX12_match_92 : decode cX12_match 92 = .ok (.iconst 1, 1) := by decide +kernel
theorem dX12_match_93 : decode cX12_match 93 = .ok (.iload 4, 2) := by decide +kernel
theorem dX12_match_95 : decode cX12_match 95 = .ok (.ishl, 1) := by decide +kernel
theorem dX12_match_96 : decode cX12_match 96 = .ok (.ior, 1) := by decide +kernel
theorem dX12_match_97 : decode cX12_match 97 = .ok (.istore_n 2, 1) := by decide +kernel
theorem dX12_match_98 : decode cX12_match 98 = .ok (.iinc 3 1, 3) := by decide +kernel
theorem dX12_match_101 : decode cX12_match 101 = .ok (.goto (-32), 3) := by decide +kernel
theorem dX12_match_104 : decode cX12_match 104 = .ok (.aload_n 0, 1) := by decide +kernel
theorem dX12_match_105 : decode cX12_match 105 = .ok (.iload_n 1, 1) := by decide +kernel
theorem dX12_match_106 : decode cX12_match 106 = .ok (.iload_n 2, 1) := by decide +kernel
theorem dX12_match_107 : decode cX12_match 107 = .ok (.invokevirtual 540, 3) := by decide +kernel
theorem dX12_match_110 : decode cX12_match 110 = .ok (.istore_n 3, 1) := by decide +kernel
theorem dX12_match_111 : decode cX12_match 111 = .ok (.iload_n 3, 1) := by decide +kernel
theorem dX12_match_112 : decode cX12_match 112 = .ok (.ifCond .ge 8, 3) := by decide +kernel
theorem dX12_match_115 : decode cX12_match 115 = .ok (.bipush (-2), 2) := by decide +kernel
theorem dX12_match_117 : decode cX12_match 117 = .ok (.goto 4, 3) := by decide +kernel
theorem dX12_match_120 : decode cX12_match 120 = .ok (.iload_n 3, 1) := by decide +kernel
theorem dX12_match_121 : decode cX12_match 121 = .ok (.ireturn, 1) := by decide +kernel
theorem dX12_join_0 : decode cX12_join 0 = .ok (.aload_n 0, 1) := by decide +kernel
theorem dX12_join_1 : decode cX12_join 1 = .ok (.iconst 0, 1) := by decide +kernel
theorem dX12_join_2 : decode cX12_join 2 = .ok (.putfield 175, 3) := by decide +kernel
theorem dX12_join_5 : decode cX12_join 5 = .ok (.iconst 1, 1) := by decide +kernel
theorem dX12_join_6 : decode cX12_join 6 = .ok (.istore_n 1, 1) := by decide +kernel
theorem dX12_join_7 : decode cX12_join 7 = .ok (.iconst 0, 1) := by decide +kernel
theorem dX12_join_8 : decode cX12_join 8 = .ok (.istore_n 2, 1) := by decide +kernel
theorem dX12_join_9 : decode cX12_join 9 = .ok (.iconst 1, 1) := by decide +kernel
theorem dX12_join_10 : decode cX12_join 10 = .ok (.istore_n 3, 1) := by decide +kernel
theorem dX12_join_11 : decode cX12_join 11 = .ok (.iload_n 3, 1) := by decide +kernel
theorem dX12_join_12 : decode cX12_join 12 = .ok (.aload_n 0, 1) := by decide +kernel
theorem dX12_join_13 : decode cX12_join 13 = .ok (.getfield 258, 3) := by decide +kernel
theorem dX12_join_16 : decode cX12_join 16 = .ok (.if_icmp .ge 117, 3) := by decide +kernel
theorem dX12_join_19 : decode cX12_join 19 = .ok (.iconst (-1), 1) := by decide +kernel
theorem dX12_join_20 : decode cX12_join 20 = .ok (.istore 4, 2) := by decide +kernel
theorem dX12_join_22 : decode cX12_join 22 = .ok (.iconst 0, 1) := by decide +kernel
theorem dX12_join_23 : decode cX12_join 23 = .ok (.istore 5, 2) := by decide +kernel
theorem dX12_join_25 : decode cX12_join 25 = .ok (.iconst 0, 1) := by decide +kernel
theorem dX12_join_26 : decode cX12_join 26 = .ok (.istore 6, 2) := by decide +kernel
theorem dX12_join_28 : decode cX12_join 28 = .ok (.iload 6, 2) := by decide +kernel
theorem dX12_join_30 : decode cX12_join 30 = .ok (.aload_n 0, 1) := by decide +kernel
theorem dX12_join_31 : decode cX12_join 31 = .ok (.getfield 258, 3) := by decide +kernel
theorem dX12_join_34 : decode cX12_join 34 = .ok (.if_icmp .ge 81, 3) := by decide +kernel
theorem dX12_join_37 : decode cX12_join 37 = .ok (.iconst 0, 1) := by decide +kernel
theorem dX12_join_38 : decode cX12_join 38 = .ok (.istore 7, 2) := by decide +kernel
theorem dX12_join_40 : decode cX12_join 40 = .ok (.iload 7, 2) := by decide +kernel
theorem dX12_join_42 : decode cX12_join 42 = .ok (.aload_n 0, 1) := by decide +kernel
theorem dX12_join_43 : decode cX12_join 43 = .ok (.getfield 258, 3) := by decide +kernel
theorem dX12_join_46 : decode cX12_join 46 = .ok (.if_icmp .ge 63, 3) := by decide +kernel
theorem dX12_join_49 : decode cX12_join 49 = .ok (.iload_n 1, 1) := by decide +kernel
theorem dX12_join_50 : decode cX12_join 50 = .ok (.iload 6, 2) := by decide +kernel
theorem dX12_join_52 : decode cX12_join 52 = .ok (.invokestatic 426, 3) := by decide +kernel
theorem dX12_join_55 : decode cX12_join 55 = .ok (.ifCond .eq 48, 3) := by decide +kernel
theorem dX12_join_58 : decode cX12_join 58 = .ok (.iload_n 1, 1) := by decide +kernel
theorem dX12_join_59 : decode cX12_join 59 = .ok (.iload 7, 2) := by decide +kernel
theorem dX12_join_61 : decode cX12_join 61 = .ok (.invokestatic 426, 3) := by decide +kernel
theorem dX12_join_64 : decode cX12_join 64 = .ok (.ifCond .eq 6, 3) := by decide +kernel
theorem dX12_join_67 : decode cX12_join 67 = .ok (.goto 36, 3) := by decide +kernel
theorem dX12_join_70 : decode cX12_join 70 = .ok (.aload_n 0, 1) := by decide +kernel
theorem dX12_join_71 : decode cX12_join 71 = .ok (.iload 6, 2) := by decide +kernel
theorem dX12_join_73 : decode cX12_join 73 = .ok (.iload 7, 2) := by decide +kernel
theorem dX12_join_75 : decode cX12_join 75 = .ok (.invokevirtual 528, 3) := by decide +kernel
theorem dX12_join_78 : decode cX12_join 78 = .ok (.istore 8, 2) := by decide +kernel
theorem dX12_join_80 : decode cX12_join 80 = .ok (.iload 4, 2) := by decide +kernel
theorem dX12_join_82 : decode cX12_join 82 = .ok (.ifCond .lt 13, 3) := by decide +kernel
theorem dX12_join_85 : decode cX12_join 85 = .ok (.iload 8, 2) := by decide +kernel
theorem dX12_join_87 : decode cX12_join 87 = .ok (.iload 5, 2) := by decide +kernel
theorem dX12_join_89 : decode cX12_join 89 = .ok (.if_icmp .lt 6, 3) := by decide +kernel
theorem dX12_join_92 : decode cX12_join 92 = .ok (.goto 11, 3) := by decide +kernel
theorem dX12_join_95 : decode cX12_join 95 = .ok (.iload 7, 2) := by decide +kernel
theorem dX12_join_97 : decode cX12_join 97 = .ok (.istore 4, 2) := by decide +kernel
theorem dX12_join_99 : decode cX12_join 99 = .ok (.iload 8, 2) := by decide +kernel
theorem dX12_join_101 : decode cX12_join 101 = .ok (.istore 5, 2) := by decide +kernel
theorem dX12_join_103 : decode cX12_join 103 = .ok (.iinc 7 1, 3) := by decide +kernel
theorem dX12_join_106 : decode cX12_join 106 = .ok (.goto (-66), 3) := by decide +kernel
theorem dX12_join_109 : decode cX12_join 109 = .ok (.iinc 6 1, 3) := by decide +kernel
theorem dX12_join_112 : decode cX12_join 112 = .ok (.goto (-84), 3) := by decide +kernel
theorem dX12_join_115 : decode cX12_join 115 = .ok (.iload_n 1, 1) := by decide +kernel
theorem dX12_join_116 : decode cX12_join 116 = .ok (.iconst 1, 1) := by decide +kernel
theorem dX12_join_117 : decode cX12_join 117 = .ok (.iload 4, 2) := by decide +kernel
theorem dX12_join_119 : decode cX12_join 119 = .ok (.ishl, 1) := by decide +kernel
theorem dX12_join_120 : decode cX12_join 120 = .ok (.ior, 1) := by decide +kernel
theorem dX12_join_121 : decode cX12_join 121 = .ok (.istore_n 1, 1) := by decide +kernel
theorem dX12_join_122 : decode cX12_join 122 = .ok (.iload_n 2, 1) := by decide +kernel
theorem dX12_join_123 : decode cX12_join 123 = .ok (.iload 5, 2) := by decide +kernel
theorem dX12_join_125 : decode cX12_join 125 = .ok (.iadd, 1) := by decide +kernel
theorem dX12_join_126 : decode cX12_join 126 = .ok (.istore_n 2, 1) := by decide +kernel
theorem dX12_join_127 : decode cX12_join 127 = .ok (.iinc 3 1, 3) := by decide +kernel
theorem dX12_join_130 : decode cX12_join 130 = .ok (.goto (-119), 3) := by decide +kernel
theorem dX12_join_133 : decode cX12_join 133 = .ok (.iload_n 2, 1) := by decide +kernel
theorem dX12_join_134 : decode cX12_join 134 = .ok (.ireturn, 1) := by decide +kernel
theorem dX12_game_0 : decode cX12_game 0 = .ok (.aload_n 0, 1) := by decide +kernel
theorem dX12_game_1 : decode cX12_game 1 = .ok (.iconst 0, 1) := by decide +kernel
theorem dX12_game_2 : decode cX12_game 2 = .ok (.putfield 175, 3) := by decide +kernel
theorem dX12_game_5 : decode cX12_game 5 = .ok (.iload_n 1, 1) := by decide +kernel
theorem dX12_game_6 : decode cX12_game 6 = .ok (.iconst 0, 1) := by decide +kernel
theorem dX12_game_7 : decode cX12_game 7 = .ok (.iconst 2, 1) := by decide +kernel
theorem dX12_game_8 : decode cX12_game 8 = .ok (.invokestatic 220, 3) := by decide +kernel
theorem dX12_game_11 : decode cX12_game 11 = .ok (.ifCond .ne 5, 3) := by decide +kernel
theorem dX12_game_14 : decode cX12_game 14 = .ok (.iconst (-1), 1) := by decide +kernel
theorem dX12_game_15 : decode cX12_game 15 = .ok (.ireturn, 1) := by decide +kernel
theorem dX12_game_16 : decode cX12_game 16 = .ok (.iconst 0, 1) := by decide +kernel
theorem dX12_game_17 : decode cX12_game 17 = .ok (.istore_n 2, 1) := by decide +kernel
theorem dX12_game_18 : decode cX12_game 18 = .ok (.iconst 0, 1) := by decide +kernel
theorem dX12_game_19 : decode cX12_game 19 = .ok (.istore_n 3, 1) := by decide +kernel
theorem dX12_game_20 : decode cX12_game 20 = .ok (.iload_n 3, 1) := by decide +kernel
theorem dX12_game_21 : decode cX12_game 21 = .ok (.aload_n 0, 1) := by decide +kernel
theorem dX12_game_22 : decode cX12_game 22 = .ok (.getfield 258, 3) := by decide +kernel
theorem dX12_game_25 : decode cX12_game 25 = .ok (.if_icmp .ge 20, 3) := by decide +kernel
theorem dX12_game_28 : decode cX12_game 28 = .ok (.iload_n 2, 1) := by decide +kernel
theorem dX12_game_29 : decode cX12_game 29 = .ok (.aload_n 0, 1) := by decide +kernel
theorem dX12_game_30 : decode cX12_game 30 = .ok (.getfield 115, 3) := by decide +kernel
theorem dX12_game_33 : decode cX12_game 33 = .ok (.iload_n 3, 1) := by decide +kernel
theorem dX12_game_34 : decode cX12_game 34 = .ok (.iaload, 1) := by decide +kernel
theorem dX12_game_35 : decode cX12_game 35 = .ok (.iconst 4, 1) := by decide +kernel
theorem dX12_game_36 : decode cX12_game 36 = .ok (.irem, 1) := by decide +kernel
theorem dX12_game_37 : decode cX12_game 37 = .ok (.ixor, 1) := by decide +kernel
theorem dX12_game_38 : decode cX12_game 38 = .ok (.istore_n 2, 1) := by decide +kernel
theorem dX12_game_39 : decode cX12_game 39 = .ok (.iinc 3 1, 3) := by decide +kernel
theorem dX12_game_42 : decode cX12_game 42 = .ok (.goto (-22), 3) := by decide +kernel
theorem dX12_game_45 : decode cX12_game 45 = .ok (.iload_n 2, 1) := by decide +kernel
theorem dX12_game_46 : decode cX12_game 46 = .ok (.ifCond .ne 14, 3) := by decide +kernel
theorem dX12_game_49 : decode cX12_game 49 = .ok (.iload_n 1, 1) := by decide +kernel
theorem dX12_game_50 : decode cX12_game 50 = .ok (.ifCond .ne 7, 3) := by decide +kernel
theorem dX12_game_53 : decode cX12_game 53 = .ok (.iconst 1, 1) := by decide +kernel
theorem dX12_game_54 : decode cX12_game 54 = .ok (.goto 5, 3) := by decide +kernel
theorem dX12_game_57 : decode cX12_game 57 = .ok (.bipush (-2), 2) := by decide +kernel
theorem dX12_game_59 : decode cX12_game 59 = .ok (.ireturn, 1) := by decide +kernel
theorem dX12_game_60 : decode cX12_game 60 = .ok (.iconst 0, 1) := by decide +kernel
theorem dX12_game_61 : decode cX12_game 61 = .ok (.istore_n 3, 1) := by decide +kernel
theorem dX12_game_62 : decode cX12_game 62 = .ok (.iload_n 3, 1) := by decide +kernel
theorem dX12_game_63 : decode cX12_game 63 = .ok (.aload_n 0, 1) := by decide +kernel
theorem dX12_game_64 : decode cX12_game 64 = .ok (.getfield 258, 3) := by decide +kernel
theorem dX12_game_67 : decode cX12_game 67 = .ok (.if_icmp .ge 83, 3) := by decide +kernel
theorem dX12_game_70 : decode cX12_game 70 = .ok (.iconst 1, 1) := by decide +kernel
theorem dX12_game_71 : decode cX12_game 71 = .ok (.istore 4, 2) := by decide +kernel
theorem dX12_game_73 : decode cX12_game 73 = .ok (.iload 4, 2) := by decide +kernel
theorem dX12_game_75 : decode cX12_game 75 = .ok (.iconst 3, 1) := by decide +kernel
