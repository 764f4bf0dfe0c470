theorem dX7_sign_108 : decode cX7_sign 108 = .ok (.bipush 26, 2) := by decide +kernel
theorem dX7_sign_110 : decode cX7_sign 110 = .ok (.ireturn, 1) := by decide +kernel
theorem dX7_sign_111 : decode cX7_sign 111 = .ok (.bipush 24, 2) := by decide +kernel
theorem dX7_sign_113 : decode cX7_sign 113 = .ok (.ireturn, 1) := by decide +kernel
theorem dX7_sign_114 : decode cX7_sign 114 = .ok (.bipush 25, 2) := by decide +kernel
theorem dX7_sign_116 : decode cX7_sign 116 = .ok (.ireturn, 1) := by decide +kernel
theorem dX7_sign_117 : decode cX7_sign 117 = .ok (.bipush 27, 2) := by decide +kernel
theorem dX7_sign_119 : decode cX7_sign 119 = .ok (.ireturn, 1) := by decide +kernel
theorem dX7_sign_120 : decode cX7_sign 120 = .ok (.bipush 29, 2) := by decide +kernel
theorem dX7_sign_122 : decode cX7_sign 122 = .ok (.ireturn, 1) := by decide +kernel
theorem dX7_sign_123 : decode cX7_sign 123 = .ok (.bipush 32, 2) := by decide +kernel
theorem dX7_sign_125 : decode cX7_sign 125 = .ok (.ireturn, 1) := by decide +kernel
theorem dX7_sign_126 : decode cX7_sign 126 = .ok (.bipush 33, 2) := by decide +kernel
theorem dX7_sign_128 : decode cX7_sign 128 = .ok (.ireturn, 1) := by decide +kernel
theorem dX7_sign_129 : decode cX7_sign 129 = .ok (.bipush 34, 2) := by decide +kernel
theorem dX7_sign_131 : decode cX7_sign 131 = .ok (.ireturn, 1) := by decide +kernel
theorem dX7_sign_132 : decode cX7_sign 132 = .ok (.bipush 35, 2) := by decide +kernel
theorem dX7_sign_134 : decode cX7_sign 134 = .ok (.ireturn, 1) := by decide +kernel
theorem dX7_sign_135 : decode cX7_sign 135 = .ok (.bipush 36, 2) := by decide +kernel
theorem dX7_sign_137 : decode cX7_sign 137 = .ok (.ireturn, 1) := by decide +kernel
theorem dX7_sign_138 : decode cX7_sign 138 = .ok (.bipush 38, 2) := by decide +kernel
theorem dX7_sign_140 : decode cX7_sign 140 = .ok (.ireturn, 1) := by decide +kernel
theorem dX7_widenSign_0 : decode cX7_widenSign 0 = .ok (.aload_n 0, 1) := by decide +kernel
theorem dX7_widenSign_1 : decode cX7_widenSign 1 = .ok (.getfield 31, 3) := by decide +kernel
theorem dX7_widenSign_4 : decode cX7_widenSign 4 = .ok (.aload_n 0, 1) := by decide +kernel
theorem dX7_widenSign_5 : decode cX7_widenSign 5 = .ok (.getfield 28, 3) := by decide +kernel
theorem dX7_widenSign_8 : decode cX7_widenSign 8 = .ok (.if_icmp .ge 21, 3) := by decide +kernel
theorem dX7_widenSign_11 : decode cX7_widenSign 11 = .ok (.aload_n 0, 1) := by decide +kernel
theorem dX7_widenSign_12 : decode cX7_widenSign 12 = .ok (.getfield 15, 3) := by decide +kernel
theorem dX7_widenSign_15 : decode cX7_widenSign 15 = .ok (.bipush 27, 2) := by decide +kernel
theorem dX7_widenSign_17 : decode cX7_widenSign 17 = .ok (.if_icmp .eq 13, 3) := by decide +kernel
theorem dX7_widenSign_20 : decode cX7_widenSign 20 = .ok (.aload_n 0, 1) := by decide +kernel
theorem dX7_widenSign_21 : decode cX7_widenSign 21 = .ok (.getfield 15, 3) := by decide +kernel
theorem dX7_widenSign_24 : decode cX7_widenSign 24 = .ok (.bipush 32, 2) := by decide +kernel
theorem dX7_widenSign_26 : decode cX7_widenSign 26 = .ok (.if_icmp .eq 4, 3) := by decide +kernel
theorem dX7_widenSign_29 : decode cX7_widenSign 29 = .ok (.return_, 1) := by decide +kernel
theorem dX7_widenSign_30 : decode cX7_widenSign 30 = .ok (.aload_n 0, 1) := by decide +kernel
theorem dX7_widenSign_31 : decode cX7_widenSign 31 = .ok (.getfield 9, 3) := by decide +kernel
theorem dX7_widenSign_34 : decode cX7_widenSign 34 = .ok (.aload_n 0, 1) := by decide +kernel
theorem dX7_widenSign_35 : decode cX7_widenSign 35 = .ok (.getfield 31, 3) := by decide +kernel
theorem dX7_widenSign_38 : decode cX7_widenSign 38 = .ok (.baload, 1) := by decide +kernel
theorem dX7_widenSign_39 : decode cX7_widenSign 39 = .ok (.bipush 61, 2) := by decide +kernel
theorem dX7_widenSign_41 : decode cX7_widenSign 41 = .ok (.if_icmp .ne 36, 3) := by decide +kernel
theorem dX7_widenSign_44 : decode cX7_widenSign 44 = .ok (.aload_n 0, 1) := by decide +kernel
theorem dX7_widenSign_45 : decode cX7_widenSign 45 = .ok (.aload_n 0, 1) := by decide +kernel
theorem dX7_widenSign_46 : decode cX7_widenSign 46 = .ok (.getfield 15, 3) := by decide +kernel
theorem dX7_widenSign_49 : decode cX7_widenSign 49 = .ok (.bipush 27, 2) := by decide +kernel
theorem dX7_widenSign_51 : decode cX7_widenSign 51 = .ok (.if_icmp .ne 8, 3) := by decide +kernel
theorem dX7_widenSign_54 : decode cX7_widenSign 54 = .ok (.bipush 28, 2) := by decide +kernel
theorem dX7_widenSign_56 : decode cX7_widenSign 56 = .ok (.goto 5, 3) := by decide +kernel
theorem dX7_widenSign_59 : decode cX7_widenSign 59 = .ok (.bipush 31, 2) := by decide +kernel
theorem dX7_widenSign_61 : decode cX7_widenSign 61 = .ok (.putfield 15, 3) := by decide +kernel
theorem dX7_widenSign_64 : decode cX7_widenSign 64 = .ok (.aload_n 0, 1) := by decide +kernel
theorem dX7_widenSign_65 : decode cX7_widenSign 65 = .ok (.dup, 1) := by decide +kernel
theorem dX7_widenSign_66 : decode cX7_widenSign 66 = .ok (.getfield 31, 3) := by decide +kernel
theorem dX7_widenSign_69 : decode cX7_widenSign 69 = .ok (.iconst 1, 1) := by decide +kernel
theorem dX7_widenSign_70 : decode cX7_widenSign 70 = .ok (.iadd, 1) := by decide +kernel
theorem dX7_widenSign_71 : decode cX7_widenSign 71 = .ok (.putfield 31, 3) := by decide +kernel
theorem dX7_widenSign_74 : decode cX7_widenSign 74 = .ok (.goto 42, 3) := by decide +kernel
theorem dX7_widenSign_77 : decode cX7_widenSign 77 = .ok (.aload_n 0, 1) := by decide +kernel
theorem dX7_widenSign_78 : decode cX7_widenSign 78 = .ok (.getfield 9, 3) := by decide +kernel
theorem dX7_widenSign_81 : decode cX7_widenSign 81 = .ok (.aload_n 0, 1) := by decide +kernel
theorem dX7_widenSign_82 : decode cX7_widenSign 82 = .ok (.getfield 31, 3) := by decide +kernel
theorem dX7_widenSign_85 : decode cX7_widenSign 85 = .ok (.baload, 1) := by decide +kernel
theorem dX7_widenSign_86 : decode cX7_widenSign 86 = .ok (.bipush 62, 2) := by decide +kernel
theorem dX7_widenSign_88 : decode cX7_widenSign 88 = .ok (.if_icmp .ne 28, 3) := by decide +kernel
theorem dX7_widenSign_91 : decode cX7_widenSign 91 = .ok (.aload_n 0, 1) := by decide +kernel
theorem dX7_widenSign_92 : decode cX7_widenSign 92 = .ok (.getfield 15, 3) := by decide +kernel
theorem dX7_widenSign_95 : decode cX7_widenSign 95 = .ok (.bipush 27, 2) := by decide +kernel
theorem dX7_widenSign_97 : decode cX7_widenSign 97 = .ok (.if_icmp .ne 19, 3) := by decide +kernel
theorem dX7_widenSign_100 : decode cX7_widenSign 100 = .ok (.aload_n 0, 1) := by decide +kernel
theorem dX7_widenSign_101 : decode cX7_widenSign 101 = .ok (.bipush 30, 2) := by decide +kernel
theorem dX7_widenSign_103 : decode cX7_widenSign 103 = .ok (.putfield 15, 3) := by decide +kernel
theorem dX7_widenSign_106 : decode cX7_widenSign 106 = .ok (.aload_n 0, 1) := by decide +kernel
theorem dX7_widenSign_107 : decode cX7_widenSign 107 = .ok (.dup, 1) := by decide +kernel
theorem dX7_widenSign_108 : decode cX7_widenSign 108 = .ok (.getfield 31, 3) := by decide +kernel
theorem dX7_widenSign_111 : decode cX7_widenSign 111 = .ok (.iconst 1, 1) := by decide +kernel
theorem dX7_widenSign_112 : decode cX7_widenSign 112 = .ok (.iadd, 1) := by decide +kernel
theorem dX7_widenSign_113 : decode cX7_widenSign 113 = .ok (.putfield 31, 3) := by decide +kernel
theorem dX7_widenSign_116 : decode cX7_widenSign 116 = .ok (.return_, 1) := by decide +kernel
theorem dX8_clear_0 : decode cX8_clear 0 = .ok (.aload_n 0, 1) := by decide +kernel
theorem dX8_clear_1 : decode cX8_clear 1 = .ok (.iconst 0, 1) := by decide +kernel
theorem dX8_clear_2 : decode cX8_clear 2 = .ok (.putfield 63, 3) := by decide +kernel
theorem dX8_clear_5 : decode cX8_clear 5 = .ok (.aload_n 0, 1) := by decide +kernel
theorem dX8_clear_6 : decode cX8_clear 6 = .ok (.iconst 0, 1) := by decide +kernel
theorem dX8_clear_7 : decode cX8_clear 7 = .ok (.putfield 67, 3) := by decide +kernel
theorem dX8_clear_10 : decode cX8_clear 10 = .ok (.aload_n 0, 1) := by decide +kernel
theorem dX8_clear_11 : decode cX8_clear 11 = .ok (.iconst 0, 1) := by decide +kernel
theorem dX8_clear_12 : decode cX8_clear 12 = .ok (.putfield 70, 3) := by decide +kernel
theorem dX8_clear_15 : decode cX8_clear 15 = .ok (.aload_n 0, 1) := by decide +kernel
theorem dX8_clear_16 : decode cX8_clear 16 = .ok (.iconst 0, 1) := by decide +kernel
theorem dX8_clear_17 : decode cX8_clear 17 = .ok (.putfield 73, 3) := by decide +kernel
theorem dX8_clear_20 : decode cX8_clear 20 = .ok (.aload_n 0, 1) := by decide +kernel
theorem dX8_clear_21 : decode cX8_clear 21 = .ok (.iconst 0, 1) := by decide +kernel
theorem dX8_clear_22 : decode cX8_clear 22 = .ok (.putfield 76, 3) := by decide +kernel
theorem dX8_clear_25 : decode cX8_clear 25 = .ok (.aload_n 0, 1) := by decide +kernel
theorem dX8_clear_26 : decode cX8_clear 26 = .ok (.iconst 0, 1) := by decide +kernel
theorem dX8_clear_27 : decode cX8_clear 27 = .ok (.putfield 79, 3) := by decide +kernel
theorem dX8_clear_30 : decode cX8_clear 30 = .ok (.aload_n 0, 1) := by decide +kernel
theorem dX8_clear_31 : decode cX8_clear 31 = .ok (.iconst 0, 1) := by decide +kernel
theorem dX8_clear_32 : decode cX8_clear 32 = .ok (.putfield 82, 3) := by decide +kernel
theorem dX8_clear_35 : decode cX8_clear 35 = .ok (.aload_n 0, 1) := by decide +kernel
theorem dX8_clear_36 : decode cX8_clear 36 = .ok (.iconst 0, 1) := by decide +kernel
theorem dX8_clear_37 : decode cX8_clear 37 = .ok (.putfield 85, 3) := by decide +kernel
theorem dX8_clear_40 : decode cX8_clear 40 = .ok (.aload_n 0, 1) := by decide +kernel
theorem dX8_clear_41 : decode cX8_clear 41 = .ok (.iconst 0, 1) := by decide +kernel
theorem dX8_clear_42 : decode cX8_clear 42 = .ok (.putfield 88, 3) := by decide +kernel
theorem dX8_clear_45 : decode cX8_clear 45 = .ok (.aload_n 0, 1) := by decide +kernel
theorem dX8_clear_46 : decode cX8_clear 46 = .ok (.getfield 51, 3) := by decide +kernel
theorem dX8_clear_49 : decode cX8_clear 49 = .ok (.invokevirtual 91, 3) := by decide +kernel
theorem dX8_clear_52 : decode cX8_clear 52 = .ok (.aload_n 0, 1) := by decide +kernel
theorem dX8_clear_53 : decode cX8_clear 53 = .ok (.getfield 55, 3) := by decide +kernel
theorem dX8_clear_56 : decode cX8_clear 56 = .ok (.invokevirtual 91, 3) := by decide +kernel
theorem dX8_clear_59 : decode cX8_clear 59 = .ok (.aload_n 0, 1) := by decide +kernel
theorem dX8_clear_60 : decode cX8_clear 60 = .ok (.getfield 58, 3) := by decide +kernel
theorem dX8_clear_63 : decode cX8_clear 63 = .ok (.invokevirtual 91, 3) := by decide +kernel
theorem dX8_clear_66 : decode cX8_clear 66 = .ok (.return_, 1) := by decide +kernel
theorem dX8_stripsIn_0 : decode cX8_stripsIn 0 = .ok (.iconst 0, 1) := by decide +kernel
theorem dX8_stripsIn_1 : decode cX8_stripsIn 1 = .ok (.istore_n 2, 1) := by decide +kernel
theorem dX8_stripsIn_2 : decode cX8_stripsIn 2 = .ok (.iload_n 2, 1) := by decide +kernel
theorem dX8_stripsIn_3 : decode cX8_stripsIn 3 = .ok (.aload_n 0, 1) := by decide +kernel
theorem dX8_stripsIn_4 : decode cX8_stripsIn 4 = .ok (.getfield 79, 3) := by decide +kernel
theorem dX8_stripsIn_7 : decode cX8_stripsIn 7 = .ok (.if_icmp .ge 21, 3) := by decide +kernel
theorem dX8_stripsIn_10 : decode cX8_stripsIn 10 = .ok (.aload_n 0, 1) := by decide +kernel
theorem dX8_stripsIn_11 : decode cX8_stripsIn 11 = .ok (.getfield 45, 3) := by decide +kernel
theorem dX8_stripsIn_14 : decode cX8_stripsIn 14 = .ok (.iload_n 2, 1) := by decide +kernel
theorem dX8_stripsIn_15 : decode cX8_stripsIn 15 = .ok (.iaload, 1) := by decide +kernel
theorem dX8_stripsIn_16 : decode cX8_stripsIn 16 = .ok (.iload_n 1, 1) := by decide +kernel
theorem dX8_stripsIn_17 : decode cX8_stripsIn 17 = .ok (.if_icmp .ne 5, 3) := by decide +kernel
theorem dX8_stripsIn_20 : decode cX8_stripsIn 20 = .ok (.iconst 1, 1) := by decide +kernel
theorem dX8_stripsIn_21 : decode cX8_stripsIn 21 = .ok (.ireturn, 1) := by decide +kernel
theorem dX8_stripsIn_22 : decode cX8_stripsIn 22 = .ok (.iinc 2 1, 3) := by decide +kernel
theorem dX8_stripsIn_25 : decode cX8_stripsIn 25 = .ok (.goto (-23), 3) := by decide +kernel
theorem dX8_stripsIn_28 : decode cX8_stripsIn 28 = .ok (.iconst 0, 1) := by decide +kernel
theorem dX8_stripsIn_29 : decode cX8_stripsIn 29 = .ok (.ireturn, 1) := by decide +kernel
theorem dX8_footAt_0 : decode cX8_footAt 0 = .ok (.iload_n 2, 1) := by decide +kernel
theorem dX8_footAt_1 : decode cX8_footAt 1 = .ok (.aload_n 0, 1) := by decide +kernel
theorem dX8_footAt_2 : decode cX8_footAt 2 = .ok (.getfield 27, 3) := by decide +kernel
theorem dX8_footAt_5 : decode cX8_footAt 5 = .ok (.iload_n 1, 1) := by decide +kernel
theorem dX8_footAt_6 : decode cX8_footAt 6 = .ok (.iaload, 1) := by decide +kernel
theorem dX8_footAt_7 : decode cX8_footAt 7 = .ok (.if_icmp .ne 14, 3) := by decide +kernel
theorem dX8_footAt_10 : decode cX8_footAt 10 = .ok (.aload_n 0, 1) := by decide +kernel
theorem dX8_footAt_11 : decode cX8_footAt 11 = .ok (.getfield 24, 3) := by decide +kernel
theorem dX8_footAt_14 : decode cX8_footAt 14 = .ok (.iload_n 1, 1) := by decide +kernel
theorem dX8_footAt_15 : decode cX8_footAt 15 = .ok (.iaload, 1) := by decide +kernel
theorem dX8_footAt_16 : decode cX8_footAt 16 = .ok (.iload_n 3, 1) := by decide +kernel
theorem dX8_footAt_17 : decode cX8_footAt 17 = .ok (.iadd, 1) := by decide +kernel
theorem dX8_footAt_18 : decode cX8_footAt 18 = .ok (.goto 9, 3) := by decide +kernel
theorem dX8_footAt_21 : decode cX8_footAt 21 = .ok (.aload_n 0, 1) := by decide +kernel
theorem dX8_footAt_22 : decode cX8_footAt 22 = .ok (.getfield 24, 3) := by decide +kernel
theorem dX8_footAt_25 : decode cX8_footAt 25 = .ok (.iload_n 1, 1) := by decide +kernel
theorem dX8_footAt_26 : decode cX8_footAt 26 = .ok (.iaload, 1) := by decide +kernel
theorem dX8_footAt_27 : decode cX8_footAt 27 = .ok (.ireturn, 1) := by decide +kernel
theorem dX10_pass_0 : decode cX10_pass 0 = .ok (.iload_n 3, 1) := by decide +kernel
theorem dX10_pass_1 : decode cX10_pass 1 = .ok (.iconst 1, 1) := by decide +kernel
theorem dX10_pass_2 : decode cX10_pass 2 = .ok (.if_icmp .eq 9, 3) := by decide +kernel
theorem dX10_pass_5 : decode cX10_pass 5 = .ok (.aload_n 0, 1) := by decide +kernel
theorem dX10_pass_6 : decode cX10_pass 6 = .ok (.aload_n 1, 1) := by decide +kernel
theorem dX10_pass_7 : decode cX10_pass 7 = .ok (.aload_n 2, 1) := by decide +kernel
theorem dX10_pass_8 : decode cX10_pass 8 = .ok (.invokevirtual 19, 3) := by decide +kernel
theorem dX10_pass_11 : decode cX10_pass 11 = .ok (.iload_n 3, 1) := by decide +kernel
theorem dX10_pass_12 : decode cX10_pass 12 = .ok (.iconst 3, 1) := by decide +kernel
theorem dX10_pass_13 : decode cX10_pass 13 = .ok (.if_icmp .eq 9, 3) := by decide +kernel
theorem dX10_pass_16 : decode cX10_pass 16 = .ok (.aload_n 0, 1) := by decide +kernel
theorem dX10_pass_17 : decode cX10_pass 17 = .ok (.aload_n 1, 1) := by decide +kernel
theorem dX10_pass_18 : decode cX10_pass 18 = .ok (.aload_n 2, 1) := by decide +kernel
theorem dX10_pass_19 : decode cX10_pass 19 = .ok (.invokevirtual 23, 3) := by decide +kernel
theorem dX10_pass_22 : decode cX10_pass 22 = .ok (.iconst 0, 1) := by decide +kernel
theorem dX10_pass_23 : decode cX10_pass 23 = .ok (.istore 4, 2) := by decide +kernel
theorem dX10_pass_25 : decode cX10_pass 25 = .ok (.iload 4, 2) := by decide +kernel
theorem dX10_pass_27 : decode cX10_pass 27 = .ok (.aload_n 1, 1) := by decide +kernel
theorem dX10_pass_28 : decode cX10_pass 28 = .ok (.getfield 26, 3) := by decide +kernel
theorem dX10_pass_31 : decode cX10_pass 31 = .ok (.if_icmp .ge 18, 3) := by decide +kernel
theorem dX10_pass_34 : decode cX10_pass 34 = .ok (.aload_n 0, 1) := by decide +kernel
theorem dX10_pass_35 : decode cX10_pass 35 = .ok (.aload_n 1, 1) := by decide +kernel
theorem dX10_pass_36 : decode cX10_pass 36 = .ok (.aload_n 2, 1) := by decide +kernel
theorem dX10_pass_37 : decode cX10_pass 37 = .ok (.iload 4, 2) := by decide +kernel
theorem dX10_pass_39 : decode cX10_pass 39 = .ok (.iload_n 3, 1) := by decide +kernel
theorem dX10_pass_40 : decode cX10_pass 40 = .ok (.invokevirtual 32, 3) := by decide +kernel
theorem dX10_pass_43 : decode cX10_pass 43 = .ok (.iinc 4 1, 3) := by decide +kernel
theorem dX10_pass_46 : decode cX10_pass 46 = .ok (.goto (-21), 3) := by decide +kernel
theorem dX10_pass_49 : decode cX10_pass 49 = .ok (.aload_n 0, 1) := by decide +kernel
theorem dX10_pass_50 : decode cX10_pass 50 = .ok (.aload_n 1, 1) := by decide +kernel
theorem dX10_pass_51 : decode cX10_pass 51 = .ok (.aload_n 2, 1) := by decide +kernel
theorem dX10_pass_52 : decode cX10_pass 52 = .ok (.iload_n 3, 1) := by decide +kernel
theorem dX10_pass_53 : decode cX10_pass 53 = .ok (.invokevirtual 36, 3) := by decide +kernel
theorem dX10_pass_56 : decode cX10_pass 56 = .ok (.ifCond .eq 8, 3) := by decide +kernel
theorem dX10_pass_59 : decode cX10_pass 59 = .ok (.aload_n 2, 1) := by decide +kernel
theorem dX10_pass_60 : decode cX10_pass 60 = .ok (.aload_n 1, 1) := by decide +kernel
theorem dX10_pass_61 : decode cX10_pass 61 = .ok (.invokevirtual 40, 3) := by decide +kernel
theorem dX10_pass_64 : decode cX10_pass 64 = .ok (.aload_n 1, 1) := by decide +kernel
theorem dX10_pass_65 : decode cX10_pass 65 = .ok (.aload_n 2, 1) := by decide +kernel
theorem dX10_pass_66 : decode cX10_pass 66 = .ok (.getfield 46, 3) := by decide +kernel
theorem dX10_pass_69 : decode cX10_pass 69 = .ok (.invokevirtual 49, 3) := by decide +kernel
theorem dX10_pass_72 : decode cX10_pass 72 = .ok (.ifCond .eq 8, 3) := by decide +kernel
theorem dX10_pass_75 : decode cX10_pass 75 = .ok (.aload_n 2, 1) := by decide +kernel
theorem dX10_pass_76 : decode cX10_pass 76 = .ok (.aload_n 1, 1) := by decide +kernel
theorem dX10_pass_77 : decode cX10_pass 77 = .ok (.invokevirtual 53, 3) := by decide +kernel
theorem dX10_pass_80 : decode cX10_pass 80 = .ok (.aload_n 2, 1) := by decide +kernel
theorem dX10_pass_81 : decode cX10_pass 81 = .ok (.dup, 1) := by decide +kernel
theorem dX10_pass_82 : decode cX10_pass 82 = .ok (.getfield 46, 3) := by decide +kernel
theorem dX10_pass_85 : decode cX10_pass 85 = .ok (.iconst 1, 1) := by decide +kernel
theorem dX10_pass_86 : decode cX10_pass 86 = .ok (.iadd, 1) := by decide +kernel
theorem dX10_pass_87 : decode cX10_pass 87 = .ok (.putfield 46, 3) := by decide +kernel
theorem dX10_pass_90 : decode cX10_pass 90 = .ok (.return_, 1) := by decide +kernel
theorem dX10_doDeeds_0 : decode cX10_doDeeds 0 = .ok (.iconst 0, 1) := by decide +kernel
theorem dX10_doDeeds_1 : decode cX10_doDeeds 1 = .ok (.istore_n 3, 1) := by decide +kernel
theorem dX10_doDeeds_2 : decode cX10_doDeeds 2 = .ok (.iload_n 3, 1) := by decide +kernel
theorem dX10_doDeeds_3 : decode cX10_doDeeds 3 = .ok (.aload_n 1, 1) := by decide +kernel
theorem dX10_doDeeds_4 : decode cX10_doDeeds 4 = .ok (.getfield 56, 3) := by decide +kernel
theorem dX10_doDeeds_7 : decode cX10_doDeeds 7 = .ok (.if_icmp .ge 91, 3) := by decide +kernel
theorem dX10_doDeeds_10 : decode cX10_doDeeds 10 = .ok (.aload_n 1, 1) := by decide +kernel
theorem dX10_doDeeds_11 : decode cX10_doDeeds 11 = .ok (.getfield 59, 3) := by decide +kernel
theorem dX10_doDeeds_14 : decode cX10_doDeeds 14 = .ok (.iload_n 3, 1) := by decide +kernel
theorem dX10_doDeeds_15 : decode cX10_doDeeds 15 = .ok (.aaload, 1) := by decide +kernel
theorem dX10_doDeeds_16 : decode cX10_doDeeds 16 = .ok (.astore 4, 2) := by decide +kernel
theorem dX10_doDeeds_18 : decode cX10_doDeeds 18 = .ok (.aload 4, 2) := by decide +kernel
theorem dX10_doDeeds_20 : decode cX10_doDeeds 20 = .ok (.getfield 63, 3) := by decide +kernel
theorem dX10_doDeeds_23 : decode cX10_doDeeds 23 = .ok (.aload_n 2, 1) := by decide +kernel
theorem dX10_doDeeds_24 : decode cX10_doDeeds 24 = .ok (.getfield 46, 3) := by decide +kernel
theorem dX10_doDeeds_27 : decode cX10_doDeeds 27 = .ok (.if_icmp .ne 65, 3) := by decide +kernel
theorem dX10_doDeeds_30 : decode cX10_doDeeds 30 = .ok (.aload_n 0, 1) := by decide +kernel
theorem dX10_doDeeds_31 : decode cX10_doDeeds 31 = .ok (.aload_n 1, 1) := by decide +kernel
theorem dX10_doDeeds_32 : decode cX10_doDeeds 32 = .ok (.aload_n 2, 1) := by decide +kernel
theorem dX10_doDeeds_33 : decode cX10_doDeeds 33 = .ok (.iload_n 3, 1) := by decide +kernel
theorem dX10_doDeeds_34 : decode cX10_doDeeds 34 = .ok (.invokevirtual 66, 3) := by decide +kernel
theorem dX10_doDeeds_37 : decode cX10_doDeeds 37 = .ok (.bipush 20, 2) := by decide +kernel
theorem dX10_doDeeds_39 : decode cX10_doDeeds 39 = .ok (.aload 4, 2) := by decide +kernel
theorem dX10_doDeeds_41 : decode cX10_doDeeds 41 = .ok (.getfield 70, 3) := by decide +kernel
theorem dX10_doDeeds_44 : decode cX10_doDeeds 44 = .ok (.invokestatic 73, 3) := by decide +kernel
theorem dX10_doDeeds_47 : decode cX10_doDeeds 47 = .ok (.istore 5, 2) := by decide +kernel
theorem dX10_doDeeds_49 : decode cX10_doDeeds 49 = .ok (.aload_n 2, 1) := by decide +kernel
theorem dX10_doDeeds_50 : decode cX10_doDeeds 50 = .ok (.aload 4, 2) := by decide +kernel
theorem dX10_doDeeds_52 : decode cX10_doDeeds 52 = .ok (.getfield 77, 3) := by decide +kernel
theorem dX10_doDeeds_55 : decode cX10_doDeeds 55 = .ok (.aload 4, 2) := by decide +kernel
theorem dX10_doDeeds_57 : decode cX10_doDeeds 57 = .ok (.getfield 80, 3) := by decide +kernel
theorem dX10_doDeeds_60 : decode cX10_doDeeds 60 = .ok (.aload 4, 2) := by decide +kernel
theorem dX10_doDeeds_62 : decode cX10_doDeeds 62 = .ok (.getfield 83, 3) := by decide +kernel
theorem dX10_doDeeds_65 : decode cX10_doDeeds 65 = .ok (.ifCond .eq 9, 3) := by decide +kernel
theorem dX10_doDeeds_68 : decode cX10_doDeeds 68 = .ok (.iload 5, 2) := by decide +kernel
theorem dX10_doDeeds_70 : decode cX10_doDeeds 70 = .ok (.ineg, 1) := by decide +kernel
theorem dX10_doDeeds_71 : decode cX10_doDeeds 71 = .ok (.goto 5, 3) := by decide +kernel
theorem dX10_doDeeds_74 : decode cX10_doDeeds 74 = .ok (.iload 5, 2) := by decide +kernel
theorem dX10_doDeeds_76 : decode cX10_doDeeds 76 = .ok (.invokevirtual 87, 3) := by decide +kernel
theorem dX10_doDeeds_79 : decode cX10_doDeeds 79 = .ok (.ifCond .ne 13, 3) := by decide +kernel
theorem dX10_doDeeds_82 : decode cX10_doDeeds 82 = .ok (.aload_n 2, 1) := by decide +kernel
theorem dX10_doDeeds_83 : decode cX10_doDeeds 83 = .ok (.dup, 1) := by decide +kernel
theorem dX10_doDeeds_84 : decode cX10_doDeeds 84 = .ok (.getfield 91, 3) := by decide +kernel
theorem dX10_doDeeds_87 : decode cX10_doDeeds 87 = .ok (.iconst 1, 1) := by decide +kernel
theorem dX10_doDeeds_88 : decode cX10_doDeeds 88 = .ok (.iadd, 1) := by decide +kernel
theorem dX10_doDeeds_89 : decode cX10_doDeeds 89 = .ok (.putfield 91, 3) := by decide +kernel
theorem dX10_doDeeds_92 : decode cX10_doDeeds 92 = .ok (.iinc 3 1, 3) := by decide +kernel
theorem dX10_doDeeds_95 : decode cX10_doDeeds 95 = .ok (.goto (-93), 3) := by decide +kernel
theorem dX10_doDeeds_98 : decode cX10_doDeeds 98 = .ok (.return_, 1) := by decide +kernel
theorem dX10_holdWeddings_0 : decode cX10_holdWeddings 0 = .ok (.iconst 0, 1) := by decide +kernel
theorem dX10_holdWeddings_1 : decode cX10_holdWeddings 1 = .ok (.istore_n 3, 1) := by decide +kernel
theorem dX10_holdWeddings_2 : decode cX10_holdWeddings 2 = .ok (.iload_n 3, 1) := by decide +kernel
theorem dX10_holdWeddings_3 : decode cX10_holdWeddings 3 = .ok (.aload_n 1, 1) := by decide +kernel
theorem dX10_holdWeddings_4 : decode cX10_holdWeddings 4 = .ok (.getfield 94, 3) := by decide +kernel
theorem dX10_holdWeddings_7 : decode cX10_holdWeddings 7 = .ok (.if_icmp .ge 56, 3) := by decide +kernel
theorem dX10_holdWeddings_10 : decode cX10_holdWeddings 10 = .ok (.aload_n 1, 1) := by decide +kernel
theorem dX10_holdWeddings_11 : decode cX10_holdWeddings 11 = .ok (.getfield 97, 3) := by decide +kernel
theorem dX10_holdWeddings_14 : decode cX10_holdWeddings 14 = .ok (.iload_n 3, 1) := by decide +kernel
theorem dX10_holdWeddings_15 : decode cX10_holdWeddings 15 = .ok (.aaload, 1) := by decide +kernel
theorem dX10_holdWeddings_16 : decode cX10_holdWeddings 16 = .ok (.astore 4, 2) := by decide +kernel
theorem dX10_holdWeddings_18 : decode cX10_holdWeddings 18 = .ok (.aload 4, 2) := by decide +kernel
theorem dX10_holdWeddings_20 : decode cX10_holdWeddings 20 = .ok (.getfield 101, 3) := by decide +kernel
theorem dX10_holdWeddings_23 : decode cX10_holdWeddings 23 = .ok (.aload_n 2, 1) := by decide +kernel
theorem dX10_holdWeddings_24 : decode cX10_holdWeddings 24 = .ok (.getfield 46, 3) := by decide +kernel
theorem dX10_holdWeddings_27 : decode cX10_holdWeddings 27 = .ok (.if_icmp .ne 30, 3) := by decide +kernel
theorem dX10_holdWeddings_30 : decode cX10_holdWeddings 30 = .ok (.aload_n 2, 1) := by decide +kernel
theorem dX10_holdWeddings_31 : decode cX10_holdWeddings 31 = .ok (.aload 4, 2) := by decide +kernel
theorem dX10_holdWeddings_33 : decode cX10_holdWeddings 33 = .ok (.getfield 104, 3) := by decide +kernel
theorem dX10_holdWeddings_36 : decode cX10_holdWeddings 36 = .ok (.aload 4, 2) := by decide +kernel
theorem dX10_holdWeddings_38 : decode cX10_holdWeddings 38 = .ok (.getfield 107, 3) := by decide +kernel
theorem dX10_holdWeddings_41 : decode cX10_holdWeddings 41 = .ok (.invokevirtual 110, 3) := by decide +kernel
theorem dX10_holdWeddings_44 : decode cX10_holdWeddings 44 = .ok (.ifCond .ne 13, 3) := by decide +kernel
theorem dX10_holdWeddings_47 : decode cX10_holdWeddings 47 = .ok (.aload_n 2, 1) := by decide +kernel
theorem dX10_holdWeddings_48 : decode cX10_holdWeddings 48 = .ok (.dup, 1) := by decide +kernel
theorem dX10_holdWeddings_49 : decode cX10_holdWeddings 49 = .ok (.getfield 91, 3) := by decide +kernel
theorem dX10_holdWeddings_52 : decode cX10_holdWeddings 52 = .ok (.iconst 1, 1) := by decide +kernel
theorem dX10_holdWeddings_53 : decode cX10_holdWeddings 53 = .ok (.iadd, 1) := by decide +kernel
theorem dX10_holdWeddings_54 : decode cX10_holdWeddings 54 = .ok (.putfield 91, 3) := by decide +kernel
theorem dX10_holdWeddings_57 : decode cX10_holdWeddings 57 = .ok (.iinc 3 1, 3) := by decide +kernel
theorem dX10_holdWeddings_60 : decode cX10_holdWeddings 60 = .ok (.goto (-58), 3) := by decide +kernel
theorem dX10_holdWeddings_63 : decode cX10_holdWeddings 63 = .ok (.return_, 1) := by decide +kernel
theorem dX10_wear_0 : decode cX10_wear 0 = .ok (.aload_n 2, 1) := by decide +kernel
theorem dX10_wear_1 : decode cX10_wear 1 = .ok (.aload_n 1, 1) := by decide +kernel
theorem dX10_wear_2 : decode cX10_wear 2 = .ok (.iload_n 3, 1) := by decide +kernel
theorem dX10_wear_3 : decode cX10_wear 3 = .ok (.invokevirtual 114, 3) := by decide +kernel
theorem dX10_wear_6 : decode cX10_wear 6 = .ok (.istore 5, 2) := by decide +kernel
theorem dX10_wear_8 : decode cX10_wear 8 = .ok (.iload 5, 2) := by decide +kernel
theorem dX10_wear_10 : decode cX10_wear 10 = .ok (.ifCond .ne 4, 3) := by decide +kernel
theorem dX10_wear_13 : decode cX10_wear 13 = .ok (.return_, 1) := by decide +kernel
theorem dX10_wear_14 : decode cX10_wear 14 = .ok (.aload_n 0, 1) := by decide +kernel
theorem dX10_wear_15 : decode cX10_wear 15 = .ok (.aload_n 1, 1) := by decide +kernel
theorem dX10_wear_16 : decode cX10_wear 16 = .ok (.aload_n 2, 1) := by decide +kernel
theorem dX10_wear_17 : decode cX10_wear 17 = .ok (.iload_n 3, 1) := by decide +kernel
theorem dX10_wear_18 : decode cX10_wear 18 = .ok (.iload 5, 2) := by decide +kernel
theorem dX10_wear_20 : decode cX10_wear 20 = .ok (.invokevirtual 118, 3) := by decide +kernel
theorem dX10_wear_23 : decode cX10_wear 23 = .ok (.iload 4, 2) := by decide +kernel
theorem dX10_wear_25 : decode cX10_wear 25 = .ok (.iconst 4, 1) := by decide +kernel
theorem dX10_wear_26 : decode cX10_wear 26 = .ok (.if_icmp .ne 7, 3) := by decide +kernel
theorem dX10_wear_29 : decode cX10_wear 29 = .ok (.iconst 0, 1) := by decide +kernel
theorem dX10_wear_30 : decode cX10_wear 30 = .ok (.goto 26, 3) := by decide +kernel
theorem dX10_wear_33 : decode cX10_wear 33 = .ok (.aload_n 1, 1) := by decide +kernel
theorem dX10_wear_34 : decode cX10_wear 34 = .ok (.getfield 121, 3) := by decide +kernel
theorem dX10_wear_37 : decode cX10_wear 37 = .ok (.aload_n 0, 1) := by decide +kernel
theorem dX10_wear_38 : decode cX10_wear 38 = .ok (.getfield 9, 3) := by decide +kernel
theorem dX10_wear_41 : decode cX10_wear 41 = .ok (.aload_n 0, 1) := by decide +kernel
theorem dX10_wear_42 : decode cX10_wear 42 = .ok (.getfield 15, 3) := by decide +kernel
theorem dX10_wear_45 : decode cX10_wear 45 = .ok (.invokevirtual 125, 3) := by decide +kernel
theorem dX10_wear_48 : decode cX10_wear 48 = .ok (.sipush 999, 3) := by decide +kernel
theorem dX10_wear_51 : decode cX10_wear 51 = .ok (.bipush 10, 2) := by decide +kernel
theorem dX10_wear_53 : decode cX10_wear 53 = .ok (.invokestatic 73, 3) := by decide +kernel
theorem dX10_wear_56 : decode cX10_wear 56 = .ok (.istore 6, 2) := by decide +kernel
theorem dX10_wear_58 : decode cX10_wear 58 = .ok (.iload 5, 2) := by decide +kernel
theorem dX10_wear_60 : decode cX10_wear 60 = .ok (.iload 6, 2) := by decide +kernel
theorem dX10_wear_62 : decode cX10_wear 62 = .ok (.if_icmp .le 66, 3) := by decide +kernel
theorem dX10_wear_65 : decode cX10_wear 65 = .ok (.aload_n 1, 1) := by decide +kernel
theorem dX10_wear_66 : decode cX10_wear 66 = .ok (.getfield 131, 3) := by decide +kernel
theorem dX10_wear_69 : decode cX10_wear 69 = .ok (.aload_n 0, 1) := by decide +kernel
theorem dX10_wear_70 : decode cX10_wear 70 = .ok (.getfield 9, 3) := by decide +kernel
theorem dX10_wear_73 : decode cX10_wear 73 = .ok (.aload_n 0, 1) := by decide +kernel
theorem dX10_wear_74 : decode cX10_wear 74 = .ok (.getfield 15, 3) := by decide +kernel
theorem dX10_wear_77 : decode cX10_wear 77 = .ok (.invokevirtual 125, 3) := by decide +kernel
theorem dX10_wear_80 : decode cX10_wear 80 = .ok (.bipush 9, 2) := by decide +kernel
theorem dX10_wear_82 : decode cX10_wear 82 = .ok (.iconst 1, 1) := by decide +kernel
theorem dX10_wear_83 : decode cX10_wear 83 = .ok (.invokestatic 73, 3) := by decide +kernel
theorem dX10_wear_86 : decode cX10_wear 86 = .ok (.istore 7, 2) := by decide +kernel
theorem dX10_wear_88 : decode cX10_wear 88 = .ok (.aload_n 2, 1) := by decide +kernel
theorem dX10_wear_89 : decode cX10_wear 89 = .ok (.getfield 134, 3) := by decide +kernel
theorem dX10_wear_92 : decode cX10_wear 92 = .ok (.iload_n 3, 1) := by decide +kernel
theorem dX10_wear_93 : decode cX10_wear 93 = .ok (.sipush 999, 3) := by decide +kernel
theorem dX10_wear_96 : decode cX10_wear 96 = .ok (.aload_n 2, 1) := by decide +kernel
theorem dX10_wear_97 : decode cX10_wear 97 = .ok (.getfield 134, 3) := by decide +kernel
theorem dX10_wear_100 : decode cX10_wear 100 = .ok (.iload_n 3, 1) := by decide +kernel
theorem dX10_wear_101 : decode cX10_wear 101 = .ok (.iaload, 1) := by decide +kernel
theorem dX10_wear_102 : decode cX10_wear 102 = .ok (.iconst 1, 1) := by decide +kernel
theorem dX10_wear_103 : decode cX10_wear 103 = .ok (.iadd, 1) := by decide +kernel
theorem dX10_wear_104 : decode cX10_wear 104 = .ok (.invokestatic 137, 3) := by decide +kernel
theorem dX10_wear_107 : decode cX10_wear 107 = .ok (.iastore, 1) := by decide +kernel
theorem dX10_wear_108 : decode cX10_wear 108 = .ok (.aload_n 2, 1) := by decide +kernel
theorem dX10_wear_109 : decode cX10_wear 109 = .ok (.getfield 143, 3) := by decide +kernel
theorem dX10_wear_112 : decode cX10_wear 112 = .ok (.iload_n 3, 1) := by decide +kernel
theorem dX10_wear_113 : decode cX10_wear 113 = .ok (.bipush 60, 2) := by decide +kernel
theorem dX10_wear_115 : decode cX10_wear 115 = .ok (.aload_n 2, 1) := by decide +kernel
theorem dX10_wear_116 : decode cX10_wear 116 = .ok (.getfield 143, 3) := by decide +kernel
theorem dX10_wear_119 : decode cX10_wear 119 = .ok (.iload_n 3, 1) := by decide +kernel
theorem dX10_wear_120 : decode cX10_wear 120 = .ok (.iaload, 1) := by decide +kernel
theorem dX10_wear_121 : decode cX10_wear 121 = .ok (.iload 7, 2) := by decide +kernel
theorem dX10_wear_123 : decode cX10_wear 123 = .ok (.iadd, 1) := by decide +kernel
theorem dX10_wear_124 : decode cX10_wear 124 = .ok (.invokestatic 137, 3) := by decide +kernel
theorem dX10_wear_127 : decode cX10_wear 127 = .ok (.iastore, 1) := by decide +kernel
theorem dX10_wear_128 : decode cX10_wear 128 = .ok (.return_, 1) := by decide +kernel
theorem dX10_isDamp_0 : decode cX10_isDamp 0 = .ok (.iload_n 3, 1) := by decide +kernel
theorem dX10_isDamp_1 : decode cX10_isDamp 1 = .ok (.ifCond .eq 10, 3) := by decide +kernel
theorem dX10_isDamp_4 : decode cX10_isDamp 4 = .ok (.aload_n 1, 1) := by decide +kernel
theorem dX10_isDamp_5 : decode cX10_isDamp 5 = .ok (.getfield 146, 3) := by decide +kernel
theorem dX10_isDamp_8 : decode cX10_isDamp 8 = .ok (.ifCond .ne 5, 3) := by decide +kernel
theorem dX10_isDamp_11 : decode cX10_isDamp 11 = .ok (.iconst 0, 1) := by decide +kernel
theorem dX10_isDamp_12 : decode cX10_isDamp 12 = .ok (.ireturn, 1) := by decide +kernel
theorem dX10_isDamp_13 : decode cX10_isDamp 13 = .ok (.aload_n 1, 1) := by decide +kernel
theorem dX10_isDamp_14 : decode cX10_isDamp 14 = .ok (.getfield 146, 3) := by decide +kernel
theorem dX10_isDamp_17 : decode cX10_isDamp 17 = .ok (.bipush 100, 2) := by decide +kernel
theorem dX10_isDamp_19 : decode cX10_isDamp 19 = .ok (.if_icmp .ne 5, 3) := by decide +kernel
theorem dX10_isDamp_22 : decode cX10_isDamp 22 = .ok (.iconst 1, 1) := by decide +kernel
theorem dX10_isDamp_23 : decode cX10_isDamp 23 = .ok (.ireturn, 1) := by decide +kernel
theorem dX10_isDamp_24 : decode cX10_isDamp 24 = .ok (.iload_n 3, 1) := by decide +kernel
theorem dX10_isDamp_25 : decode cX10_isDamp 25 = .ok (.bipush 6, 2) := by decide +kernel
theorem dX10_isDamp_27 : decode cX10_isDamp 27 = .ok (.if_icmp .ne 25, 3) := by decide +kernel
theorem dX10_isDamp_30 : decode cX10_isDamp 30 = .ok (.aload_n 2, 1) := by decide +kernel
theorem dX10_isDamp_31 : decode cX10_isDamp 31 = .ok (.invokevirtual 149, 3) := by decide +kernel
theorem dX10_isDamp_34 : decode cX10_isDamp 34 = .ok (.bipush 100, 2) := by decide +kernel
theorem dX10_isDamp_36 : decode cX10_isDamp 36 = .ok (.irem, 1) := by decide +kernel
theorem dX10_isDamp_37 : decode cX10_isDamp 37 = .ok (.aload_n 1, 1) := by decide +kernel
theorem dX10_isDamp_38 : decode cX10_isDamp 38 = .ok (.getfield 146, 3) := by decide +kernel
theorem dX10_isDamp_41 : decode cX10_isDamp 41 = .ok (.if_icmp .ge 7, 3) := by decide +kernel
theorem dX10_isDamp_44 : decode cX10_isDamp 44 = .ok (.iconst 1, 1) := by decide +kernel
theorem dX10_isDamp_45 : decode cX10_isDamp 45 = .ok (.goto 21, 3) := by decide +kernel
theorem dX10_isDamp_48 : decode cX10_isDamp 48 = .ok (.iconst 0, 1) := by decide +kernel
theorem dX10_isDamp_49 : decode cX10_isDamp 49 = .ok (.goto 17, 3) := by decide +kernel
theorem dX10_isDamp_52 : decode cX10_isDamp 52 = .ok (.aload_n 1, 1) := by decide +kernel
theorem dX10_isDamp_53 : decode cX10_isDamp 53 = .ok (.getfield 146, 3) := by decide +kernel
theorem dX10_isDamp_56 : decode cX10_isDamp 56 = .ok (.bipush 50, 2) := by decide +kernel
theorem dX10_isDamp_58 : decode cX10_isDamp 58 = .ok (.if_icmp .lt 7, 3) := by decide +kernel
theorem dX10_isDamp_61 : decode cX10_isDamp 61 = .ok (.iconst 1, 1) := by decide +kernel
theorem dX10_isDamp_62 : decode cX10_isDamp 62 = .ok (.goto 4, 3) := by decide +kernel
theorem dX10_isDamp_65 : decode cX10_isDamp 65 = .ok (.iconst 0, 1) := by decide +kernel
theorem dX10_isDamp_66 : decode cX10_isDamp 66 = .ok (.ireturn, 1) := by decide +kernel
theorem dX10_thickOf_0 : decode cX10_thickOf 0 = .ok (.aload_n 1, 1) := by decide +kernel
theorem dX10_thickOf_1 : decode cX10_thickOf 1 = .ok (.getfield 59, 3) := by decide +kernel
theorem dX10_thickOf_4 : decode cX10_thickOf 4 = .ok (.iload_n 3, 1) := by decide +kernel
theorem dX10_thickOf_5 : decode cX10_thickOf 5 = .ok (.aaload, 1) := by decide +kernel
theorem dX10_thickOf_6 : decode cX10_thickOf 6 = .ok (.astore 4, 2) := by decide +kernel
theorem dX10_thickOf_8 : decode cX10_thickOf 8 = .ok (.aload_n 0, 1) := by decide +kernel
theorem dX10_thickOf_9 : decode cX10_thickOf 9 = .ok (.getfield 9, 3) := by decide +kernel
theorem dX10_thickOf_12 : decode cX10_thickOf 12 = .ok (.iconst 0, 1) := by decide +kernel
theorem dX10_thickOf_13 : decode cX10_thickOf 13 = .ok (.aload 4, 2) := by decide +kernel
theorem dX10_thickOf_15 : decode cX10_thickOf 15 = .ok (.getfield 70, 3) := by decide +kernel
theorem dX10_thickOf_18 : decode cX10_thickOf 18 = .ok (.iastore, 1) := by decide +kernel
theorem dX10_thickOf_19 : decode cX10_thickOf 19 = .ok (.aload_n 0, 1) := by decide +kernel
theorem dX10_thickOf_20 : decode cX10_thickOf 20 = .ok (.getfield 9, 3) := by decide +kernel
theorem dX10_thickOf_23 : decode cX10_thickOf 23 = .ok (.iconst 1, 1) := by decide +kernel
theorem dX10_thickOf_24 : decode cX10_thickOf 24 = .ok (.aload 4, 2) := by decide +kernel
theorem dX10_thickOf_26 : decode cX10_thickOf 26 = .ok (.getfield 80, 3) := by decide +kernel
theorem dX10_thickOf_29 : decode cX10_thickOf 29 = .ok (.iastore, 1) := by decide +kernel
theorem dX10_thickOf_30 : decode cX10_thickOf 30 = .ok (.aload_n 0, 1) := by decide +kernel
theorem dX10_thickOf_31 : decode cX10_thickOf 31 = .ok (.getfield 9, 3) := by decide +kernel
theorem dX10_thickOf_34 : decode cX10_thickOf 34 = .ok (.iconst 2, 1) := by decide +kernel
theorem dX10_thickOf_35 : decode cX10_thickOf 35 = .ok (.aload_n 2, 1) := by decide +kernel
theorem dX10_thickOf_36 : decode cX10_thickOf 36 = .ok (.aload 4, 2) := by decide +kernel
theorem dX10_thickOf_38 : decode cX10_thickOf 38 = .ok (.getfield 77, 3) := by decide +kernel
theorem dX10_thickOf_41 : decode cX10_thickOf 41 = .ok (.aload 4, 2) := by decide +kernel
theorem dX10_thickOf_43 : decode cX10_thickOf 43 = .ok (.getfield 80, 3) := by decide +kernel
theorem dX10_thickOf_46 : decode cX10_thickOf 46 = .ok (.invokevirtual 153, 3) := by decide +kernel
theorem dX10_thickOf_49 : decode cX10_thickOf 49 = .ok (.iastore, 1) := by decide +kernel
theorem dX10_thickOf_50 : decode cX10_thickOf 50 = .ok (.aload_n 0, 1) := by decide +kernel
theorem dX10_thickOf_51 : decode cX10_thickOf 51 = .ok (.getfield 9, 3) := by decide +kernel
theorem dX10_thickOf_54 : decode cX10_thickOf 54 = .ok (.iconst 3, 1) := by decide +kernel
theorem dX10_thickOf_55 : decode cX10_thickOf 55 = .ok (.iconst 0, 1) := by decide +kernel
theorem dX10_thickOf_56 : decode cX10_thickOf 56 = .ok (.iastore, 1) := by decide +kernel
theorem dX10_thickOf_57 : decode cX10_thickOf 57 = .ok (.aload_n 0, 1) := by decide +kernel
theorem dX10_thickOf_58 : decode cX10_thickOf 58 = .ok (.getfield 9, 3) := by decide +kernel
theorem dX10_thickOf_61 : decode cX10_thickOf 61 = .ok (.iconst 4, 1) := by decide +kernel
theorem dX10_thickOf_62 : decode cX10_thickOf 62 = .ok (.iconst 0, 1) := by decide +kernel
theorem dX10_thickOf_63 : decode cX10_thickOf 63 = .ok (.iastore, 1) := by decide +kernel
theorem dX10_thickOf_64 : decode cX10_thickOf 64 = .ok (.aload_n 0, 1) := by decide +kernel
theorem dX10_thickOf_65 : decode cX10_thickOf 65 = .ok (.getfield 9, 3) := by decide +kernel
theorem dX10_thickOf_68 : decode cX10_thickOf 68 = .ok (.iconst 5, 1) := by decide +kernel
theorem dX10_thickOf_69 : decode cX10_thickOf 69 = .ok (.aload_n 2, 1) := by decide +kernel
theorem dX10_thickOf_70 : decode cX10_thickOf 70 = .ok (.getfield 156, 3) := by decide +kernel
theorem dX10_thickOf_73 : decode cX10_thickOf 73 = .ok (.aload 4, 2) := by decide +kernel
theorem dX10_thickOf_75 : decode cX10_thickOf 75 = .ok (.getfield 77, 3) := by decide +kernel
theorem dX10_thickOf_78 : decode cX10_thickOf 78 = .ok (.iaload, 1) := by decide +kernel
theorem dX10_thickOf_79 : decode cX10_thickOf 79 = .ok (.iastore, 1) := by decide +kernel
theorem dX10_thickOf_80 : decode cX10_thickOf 80 = .ok (.aload_n 0, 1) := by decide +kernel
theorem dX10_thickOf_81 : decode cX10_thickOf 81 = .ok (.getfield 9, 3) := by decide +kernel
theorem dX10_thickOf_84 : decode cX10_thickOf 84 = .ok (.bipush 6, 2) := by decide +kernel
theorem dX10_thickOf_86 : decode cX10_thickOf 86 = .ok (.aload_n 2, 1) := by decide +kernel
theorem dX10_thickOf_87 : decode cX10_thickOf 87 = .ok (.getfield 46, 3) := by decide +kernel
theorem dX10_thickOf_90 : decode cX10_thickOf 90 = .ok (.iastore, 1) := by decide +kernel
theorem dX10_thickOf_91 : decode cX10_thickOf 91 = .ok (.aload_n 1, 1) := by decide +kernel
theorem dX10_thickOf_92 : decode cX10_thickOf 92 = .ok (.getfield 159, 3) := by decide +kernel
theorem dX10_thickOf_95 : decode cX10_thickOf 95 = .ok (.aload_n 0, 1) := by decide +kernel
theorem dX10_thickOf_96 : decode cX10_thickOf 96 = .ok (.getfield 9, 3) := by decide +kernel
theorem dX10_thickOf_99 : decode cX10_thickOf 99 = .ok (.aload_n 0, 1) := by decide +kernel
theorem dX10_thickOf_100 : decode cX10_thickOf 100 = .ok (.getfield 15, 3) := by decide +kernel
theorem dX10_thickOf_103 : decode cX10_thickOf 103 = .ok (.invokevirtual 125, 3) := by decide +kernel
theorem dX10_thickOf_106 : decode cX10_thickOf 106 = .ok (.lreturn, 1) := by decide +kernel
theorem dX10_folkLawOf_0 : decode cX10_folkLawOf 0 = .ok (.aload_n 0, 1) := by decide +kernel
theorem dX10_folkLawOf_1 : decode cX10_folkLawOf 1 = .ok (.aload_n 1, 1) := by decide +kernel
theorem dX10_folkLawOf_2 : decode cX10_folkLawOf 2 = .ok (.aload_n 2, 1) := by decide +kernel
theorem dX10_folkLawOf_3 : decode cX10_folkLawOf 3 = .ok (.iload_n 3, 1) := by decide +kernel
theorem dX10_folkLawOf_4 : decode cX10_folkLawOf 4 = .ok (.aload_n 2, 1) := by decide +kernel
theorem dX10_folkLawOf_5 : decode cX10_folkLawOf 5 = .ok (.aload_n 1, 1) := by decide +kernel
theorem dX10_folkLawOf_6 : decode cX10_folkLawOf 6 = .ok (.iload_n 3, 1) := by decide +kernel
theorem dX10_folkLawOf_7 : decode cX10_folkLawOf 7 = .ok (.invokevirtual 114, 3) := by decide +kernel
theorem dX10_folkLawOf_10 : decode cX10_folkLawOf 10 = .ok (.invokevirtual 118, 3) := by decide +kernel
theorem dX10_folkLawOf_13 : decode cX10_folkLawOf 13 = .ok (.aload 4, 2) := by decide +kernel
theorem dX10_folkLawOf_15 : decode cX10_folkLawOf 15 = .ok (.aload_n 0, 1) := by decide +kernel
theorem dX10_folkLawOf_16 : decode cX10_folkLawOf 16 = .ok (.getfield 9, 3) := by decide +kernel
theorem dX10_folkLawOf_19 : decode cX10_folkLawOf 19 = .ok (.aload_n 0, 1) := by decide +kernel
theorem dX10_folkLawOf_20 : decode cX10_folkLawOf 20 = .ok (.getfield 15, 3) := by decide +kernel
theorem dX10_folkLawOf_23 : decode cX10_folkLawOf 23 = .ok (.invokevirtual 125, 3) := by decide +kernel
theorem dX10_folkLawOf_26 : decode cX10_folkLawOf 26 = .ok (.lreturn, 1) := by decide +kernel
theorem dX10_nameMan_0 : decode cX10_nameMan 0 = .ok (.aload_n 1, 1) := by decide +kernel
theorem dX10_nameMan_1 : decode cX10_nameMan 1 = .ok (.getfield 162, 3) := by decide +kernel
theorem dX10_nameMan_4 : decode cX10_nameMan 4 = .ok (.iload_n 3, 1) := by decide +kernel
theorem dX10_nameMan_5 : decode cX10_nameMan 5 = .ok (.iaload, 1) := by decide +kernel
theorem dX10_nameMan_6 : decode cX10_nameMan 6 = .ok (.istore 5, 2) := by decide +kernel
theorem dX10_nameMan_8 : decode cX10_nameMan 8 = .ok (.aload_n 0, 1) := by decide +kernel
theorem dX10_nameMan_9 : decode cX10_nameMan 9 = .ok (.getfield 9, 3) := by decide +kernel
theorem dX10_nameMan_12 : decode cX10_nameMan 12 = .ok (.iconst 0, 1) := by decide +kernel
theorem dX10_nameMan_13 : decode cX10_nameMan 13 = .ok (.iconst 0, 1) := by decide +kernel
theorem dX10_nameMan_14 : decode cX10_nameMan 14 = .ok (.iastore, 1) := by decide +kernel
theorem dX10_nameMan_15 : decode cX10_nameMan 15 = .ok (.aload_n 0, 1) := by decide +kernel
theorem dX10_nameMan_16 : decode cX10_nameMan 16 = .ok (.getfield 9, 3) := by decide +kernel
theorem dX10_nameMan_19 : decode cX10_nameMan 19 = .ok (.iconst 1, 1) := by decide +kernel
theorem dX10_nameMan_20 : decode cX10_nameMan 20 = .ok (.iload 5, 2) := by decide +kernel
theorem dX10_nameMan_22 : decode cX10_nameMan 22 = .ok (.iastore, 1) := by decide +kernel
theorem dX10_nameMan_23 : decode cX10_nameMan 23 = .ok (.aload_n 0, 1) := by decide +kernel
theorem dX10_nameMan_24 : decode cX10_nameMan 24 = .ok (.getfield 9, 3) := by decide +kernel
theorem dX10_nameMan_27 : decode cX10_nameMan 27 = .ok (.iconst 2, 1) := by decide +kernel
theorem dX10_nameMan_28 : decode cX10_nameMan 28 = .ok (.aload_n 2, 1) := by decide +kernel
theorem dX10_nameMan_29 : decode cX10_nameMan 29 = .ok (.aload_n 2, 1) := by decide +kernel
theorem dX10_nameMan_30 : decode cX10_nameMan 30 = .ok (.getfield 165, 3) := by decide +kernel
theorem dX10_nameMan_33 : decode cX10_nameMan 33 = .ok (.iload_n 3, 1) := by decide +kernel
theorem dX10_nameMan_34 : decode cX10_nameMan 34 = .ok (.iaload, 1) := by decide +kernel
theorem dX10_nameMan_35 : decode cX10_nameMan 35 = .ok (.iload 5, 2) := by decide +kernel
theorem dX10_nameMan_37 : decode cX10_nameMan 37 = .ok (.invokevirtual 153, 3) := by decide +kernel
theorem dX10_nameMan_40 : decode cX10_nameMan 40 = .ok (.iastore, 1) := by decide +kernel
theorem dX10_nameMan_41 : decode cX10_nameMan 41 = .ok (.aload_n 0, 1) := by decide +kernel
theorem dX10_nameMan_42 : decode cX10_nameMan 42 = .ok (.getfield 9, 3) := by decide +kernel
theorem dX10_nameMan_45 : decode cX10_nameMan 45 = .ok (.iconst 3, 1) := by decide +kernel
theorem dX10_nameMan_46 : decode cX10_nameMan 46 = .ok (.iload 4, 2) := by decide +kernel
theorem dX10_nameMan_48 : decode cX10_nameMan 48 = .ok (.iastore, 1) := by decide +kernel
theorem dX10_nameMan_49 : decode cX10_nameMan 49 = .ok (.aload_n 0, 1) := by decide +kernel
theorem dX10_nameMan_50 : decode cX10_nameMan 50 = .ok (.getfield 9, 3) := by decide +kernel
theorem dX10_nameMan_53 : decode cX10_nameMan 53 = .ok (.iconst 4, 1) := by decide +kernel
theorem dX10_nameMan_54 : decode cX10_nameMan 54 = .ok (.aload_n 2, 1) := by decide +kernel
theorem dX10_nameMan_55 : decode cX10_nameMan 55 = .ok (.getfield 134, 3) := by decide +kernel
theorem dX10_nameMan_58 : decode cX10_nameMan 58 = .ok (.iload_n 3, 1) := by decide +kernel
theorem dX10_nameMan_59 : decode cX10_nameMan 59 = .ok (.iaload, 1) := by decide +kernel
theorem dX10_nameMan_60 : decode cX10_nameMan 60 = .ok (.iastore, 1) := by decide +kernel
theorem dX10_nameMan_61 : decode cX10_nameMan 61 = .ok (.aload_n 0, 1) := by decide +kernel
theorem dX10_nameMan_62 : decode cX10_nameMan 62 = .ok (.getfield 9, 3) := by decide +kernel
theorem dX10_nameMan_65 : decode cX10_nameMan 65 = .ok (.iconst 5, 1) := by decide +kernel
theorem dX10_nameMan_66 : decode cX10_nameMan 66 = .ok (.aload_n 2, 1) := by decide +kernel
theorem dX10_nameMan_67 : decode cX10_nameMan 67 = .ok (.getfield 156, 3) := by decide +kernel
theorem dX10_nameMan_70 : decode cX10_nameMan 70 = .ok (.aload_n 2, 1) := by decide +kernel
theorem dX10_nameMan_71 : decode cX10_nameMan 71 = .ok (.getfield 165, 3) := by decide +kernel
theorem dX10_nameMan_74 : decode cX10_nameMan 74 = .ok (.iload_n 3, 1) := by decide +kernel
theorem dX10_nameMan_75 : decode cX10_nameMan 75 = .ok (.iaload, 1) := by decide +kernel
theorem dX10_nameMan_76 : decode cX10_nameMan 76 = .ok (.iaload, 1) := by decide +kernel
theorem dX10_nameMan_77 : decode cX10_nameMan 77 = .ok (.iastore, 1) := by decide +kernel
theorem dX10_nameMan_78 : decode cX10_nameMan 78 = .ok (.aload_n 0, 1) := by decide +kernel
theorem dX10_nameMan_79 : decode cX10_nameMan 79 = .ok (.getfield 9, 3) := by decide +kernel
theorem dX10_nameMan_82 : decode cX10_nameMan 82 = .ok (.bipush 6, 2) := by decide +kernel
theorem dX10_nameMan_84 : decode cX10_nameMan 84 = .ok (.aload_n 2, 1) := by decide +kernel
theorem dX10_nameMan_85 : decode cX10_nameMan 85 = .ok (.getfield 46, 3) := by decide +kernel
theorem dX10_nameMan_88 : decode cX10_nameMan 88 = .ok (.iastore, 1) := by decide +kernel
theorem dX10_nameMan_89 : decode cX10_nameMan 89 = .ok (.return_, 1) := by decide +kernel
theorem dX10_cut_0 : decode cX10_cut 0 = .ok (.lload_n 0, 1) := by decide +kernel
theorem dX10_cut_1 : decode cX10_cut 1 = .ok (.ldc2_w 167, 3) := by decide +kernel
theorem dX10_cut_4 : decode cX10_cut 4 = .ok (.lcmp, 1) := by decide +kernel
theorem dX10_cut_5 : decode cX10_cut 5 = .ok (.ifCond .ne 5, 3) := by decide +kernel
theorem dX10_cut_8 : decode cX10_cut 8 = .ok (.iload_n 3, 1) := by decide +kernel
theorem dX10_cut_9 : decode cX10_cut 9 = .ok (.ireturn, 1) := by decide +kernel
theorem dX10_cut_10 : decode cX10_cut 10 = .ok (.lconst 0, 1) := by decide +kernel
theorem dX10_cut_11 : decode cX10_cut 11 = .ok (.iload_n 2, 1) := by decide +kernel
theorem dX10_cut_12 : decode cX10_cut 12 = .ok (.i2l, 1) := by decide +kernel
theorem dX10_cut_13 : decode cX10_cut 13 = .ok (.lload_n 0, 1) := by decide +kernel
theorem dX10_cut_14 : decode cX10_cut 14 = .ok (.invokestatic 169, 3) := by decide +kernel
theorem dX10_cut_17 : decode cX10_cut 17 = .ok (.invokestatic 172, 3) := by decide +kernel
theorem dX10_cut_20 : decode cX10_cut 20 = .ok (.l2i, 1) := by decide +kernel
theorem dX10_cut_21 : decode cX10_cut 21 = .ok (.ireturn, 1) := by decide +kernel
theorem dJ6_bitCount_0f7a4_0 : decode cJ6_bitCount_0f7a4 0 = .ok (.iload_n 0, 1) := by decide +kernel
theorem dJ6_bitCount_0f7a4_1 : decode cJ6_bitCount_0f7a4 1 = .ok (.iload_n 0, 1) := by decide +kernel
theorem dJ6_bitCount_0f7a4_2 : decode cJ6_bitCount_0f7a4 2 = .ok (.iconst 1, 1) := by decide +kernel
theorem dJ6_bitCount_0f7a4_3 : decode cJ6_bitCount_0f7a4 3 = .ok (.iushr, 1) := by decide +kernel
theorem dJ6_bitCount_0f7a4_4 : decode cJ6_bitCount_0f7a4 4 = .ok (.ldc_w 265, 3) := by decide +kernel
theorem dJ6_bitCount_0f7a4_7 : decode cJ6_bitCount_0f7a4 7 = .ok (.iand, 1) := by decide +kernel
theorem dJ6_bitCount_0f7a4_8 : decode cJ6_bitCount_0f7a4 8 = .ok (.isub, 1) := by decide +kernel
theorem dJ6_bitCount_0f7a4_9 : decode cJ6_bitCount_0f7a4 9 = .ok (.istore_n 0, 1) := by decide +kernel
theorem dJ6_bitCount_0f7a4_10 : decode cJ6_bitCount_0f7a4 10 = .ok (.iload_n 0, 1) := by decide +kernel
theorem dJ6_bitCount_0f7a4_11 : decode cJ6_bitCount_0f7a4 11 = .ok (.ldc_w 266, 3) := by decide +kernel
theorem dJ6_bitCount_0f7a4_14 : decode cJ6_bitCount_0f7a4 14 = .ok (.iand, 1) := by decide +kernel
theorem dJ6_bitCount_0f7a4_15 : decode cJ6_bitCount_0f7a4 15 = .ok (.iload_n 0, 1) := by decide +kernel
theorem dJ6_bitCount_0f7a4_16 : decode cJ6_bitCount_0f7a4 16 = .ok (.iconst 2, 1) := by decide +kernel
theorem dJ6_bitCount_0f7a4_17 : decode cJ6_bitCount_0f7a4 17 = .ok (.iushr, 1) := by decide +kernel
theorem dJ6_bitCount_0f7a4_18 : decode cJ6_bitCount_0f7a4 18 = .ok (.ldc_w 266, 3) := by decide +kernel
theorem dJ6_bitCount_0f7a4_21 : decode cJ6_bitCount_0f7a4 21 = .ok (.iand, 1) := by decide +kernel
theorem dJ6_bitCount_0f7a4_22 : decode cJ6_bitCount_0f7a4 22 = .ok (.iadd, 1) := by decide +kernel
theorem dJ6_bitCount_0f7a4_23 : decode cJ6_bitCount_0f7a4 23 = .ok (.istore_n 0, 1) := by decide +kernel
theorem dJ6_bitCount_0f7a4_24 : decode cJ6_bitCount_0f7a4 24 = .ok (.iload_n 0, 1) := by decide +kernel
theorem dJ6_bitCount_0f7a4_25 : decode cJ6_bitCount_0f7a4 25 = .ok (.iload_n 0, 1) := by decide +kernel
theorem dJ6_bitCount_0f7a4_26 : decode cJ6_bitCount_0f7a4 26 = .ok (.iconst 4, 1) := by decide +kernel
theorem dJ6_bitCount_0f7a4_27 : decode cJ6_bitCount_0f7a4 27 = .ok (.iushr, 1) := by decide +kernel
theorem dJ6_bitCount_0f7a4_28 : decode cJ6_bitCount_0f7a4 28 = .ok (.iadd, 1) := by decide +kernel
theorem dJ6_bitCount_0f7a4_29 : decode cJ6_bitCount_0f7a4 29 = .ok (.ldc_w 267, 3) := by decide +kernel
theorem dJ6_bitCount_0f7a4_32 : decode cJ6_bitCount_0f7a4 32 = .ok (.iand, 1) := by decide +kernel
theorem dJ6_bitCount_0f7a4_33 : decode cJ6_bitCount_0f7a4 33 = .ok (.istore_n 0, 1) := by decide +kernel
theorem dJ6_bitCount_0f7a4_34 : decode cJ6_bitCount_0f7a4 34 = .ok (.iload_n 0, 1) := by decide +kernel
theorem dJ6_bitCount_0f7a4_35 : decode cJ6_bitCount_0f7a4 35 = .ok (.iload_n 0, 1) := by decide +kernel
theorem dJ6_bitCount_0f7a4_36 : decode cJ6_bitCount_0f7a4 36 = .ok (.bipush 8, 2) := by decide +kernel
theorem dJ6_bitCount_0f7a4_38 : decode cJ6_bitCount_0f7a4 38 = .ok (.iushr, 1) := by decide +kernel
theorem dJ6_bitCount_0f7a4_39 : decode cJ6_bitCount_0f7a4 39 = .ok (.iadd, 1) := by decide +kernel
theorem dJ6_bitCount_0f7a4_40 : decode cJ6_bitCount_0f7a4 40 = .ok (.istore_n 0, 1) := by decide +kernel
theorem dJ6_bitCount_0f7a4_41 : decode cJ6_bitCount_0f7a4 41 = .ok (.iload_n 0, 1) := by decide +kernel
theorem dJ6_bitCount_0f7a4_42 : decode cJ6_bitCount_0f7a4 42 = .ok (.iload_n 0, 1) := by decide +kernel
theorem dJ6_bitCount_0f7a4_43 : decode cJ6_bitCount_0f7a4 43 = .ok (.bipush 16, 2) := by decide +kernel
theorem dJ6_bitCount_0f7a4_45 : decode cJ6_bitCount_0f7a4 45 = .ok (.iushr, 1) := by decide +kernel
theorem dJ6_bitCount_0f7a4_46 : decode cJ6_bitCount_0f7a4 46 = .ok (.iadd, 1) := by decide +kernel
theorem dJ6_bitCount_0f7a4_47 : decode cJ6_bitCount_0f7a4 47 = .ok (.istore_n 0, 1) := by decide +kernel
theorem dJ6_bitCount_0f7a4_48 : decode cJ6_bitCount_0f7a4 48 = .ok (.iload_n 0, 1) := by decide +kernel
theorem dJ6_bitCount_0f7a4_49 : decode cJ6_bitCount_0f7a4 49 = .ok (.bipush 63, 2) := by decide +kernel
theorem dJ6_bitCount_0f7a4_51 : decode cJ6_bitCount_0f7a4 51 = .ok (.iand, 1) := by decide +kernel
theorem dJ6_bitCount_0f7a4_52 : decode cJ6_bitCount_0f7a4 52 = .ok (.ireturn, 1) := by decide +kernel
theorem dJ7_fill_53178_0 : decode cJ7_fill_53178 0 = .ok (.iconst 0, 1) := by decide +kernel
theorem dJ7_fill_53178_1 : decode cJ7_fill_53178 1 = .ok (.istore_n 2, 1) := by decide +kernel
theorem dJ7_fill_53178_2 : decode cJ7_fill_53178 2 = .ok (.aload_n 0, 1) := by decide +kernel
theorem dJ7_fill_53178_3 : decode cJ7_fill_53178 3 = .ok (.arraylength, 1) := by decide +kernel
theorem dJ7_fill_53178_4 : decode cJ7_fill_53178 4 = .ok (.istore_n 3, 1) := by decide +kernel
theorem dJ7_fill_53178_5 : decode cJ7_fill_53178 5 = .ok (.iload_n 2, 1) := by decide +kernel
theorem dJ7_fill_53178_6 : decode cJ7_fill_53178 6 = .ok (.iload_n 3, 1) := by decide +kernel
theorem dJ7_fill_53178_7 : decode cJ7_fill_53178 7 = .ok (.if_icmp .ge 13, 3) := by decide +kernel
theorem dJ7_fill_53178_10 : decode cJ7_fill_53178 10 = .ok (.aload_n 0, 1) := by decide +kernel
theorem dJ7_fill_53178_11 : decode cJ7_fill_53178 11 = .ok (.iload_n 2, 1) := by decide +kernel
theorem dJ7_fill_53178_12 : decode cJ7_fill_53178 12 = .ok (.iload_n 1, 1) := by decide +kernel
theorem dJ7_fill_53178_13 : decode cJ7_fill_53178 13 = .ok (.iastore, 1) := by decide +kernel
theorem dJ7_fill_53178_14 : decode cJ7_fill_53178 14 = .ok (.iinc 2 1, 3) := by decide +kernel
theorem dJ7_fill_53178_17 : decode cJ7_fill_53178 17 = .ok (.goto (-12), 3) := by decide +kernel
theorem dJ7_fill_53178_20 : decode cJ7_fill_53178 20 = .ok (.return_, 1) := by decide +kernel
