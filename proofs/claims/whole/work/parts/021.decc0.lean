theorem dX12_thrown_0 : decode cX12_thrown 0 = .ok (.aload_n 0, 1) := by decide +kernel
theorem dX12_thrown_1 : decode cX12_thrown 1 = .ok (.getfield 175, 3) := by decide +kernel
theorem dX12_thrown_4 : decode cX12_thrown 4 = .ok (.ireturn, 1) := by decide +kernel
theorem dX12_feed_0 : decode cX12_feed 0 = .ok (.aload_n 0, 1) := by decide +kernel
theorem dX12_feed_1 : decode cX12_feed 1 = .ok (.iconst 0, 1) := by decide +kernel
theorem dX12_feed_2 : decode cX12_feed 2 = .ok (.putfield 175, 3) := by decide +kernel
theorem dX12_feed_5 : decode cX12_feed 5 = .ok (.aload_n 0, 1) := by decide +kernel
theorem dX12_feed_6 : decode cX12_feed 6 = .ok (.getfield 178, 3) := by decide +kernel
theorem dX12_feed_9 : decode cX12_feed 9 = .ok (.bipush 20, 2) := by decide +kernel
theorem dX12_feed_11 : decode cX12_feed 11 = .ok (.iadd, 1) := by decide +kernel
theorem dX12_feed_12 : decode cX12_feed 12 = .ok (.sipush 700, 3) := by decide +kernel
theorem dX12_feed_15 : decode cX12_feed 15 = .ok (.if_icmp .le 5, 3) := by decide +kernel
theorem dX12_feed_18 : decode cX12_feed 18 = .ok (.iconst (-1), 1) := by decide +kernel
theorem dX12_feed_19 : decode cX12_feed 19 = .ok (.ireturn, 1) := by decide +kernel
theorem dX12_feed_20 : decode cX12_feed 20 = .ok (.iconst 0, 1) := by decide +kernel
theorem dX12_feed_21 : decode cX12_feed 21 = .ok (.istore 6, 2) := by decide +kernel
theorem dX12_feed_23 : decode cX12_feed 23 = .ok (.iload 6, 2) := by decide +kernel
theorem dX12_feed_25 : decode cX12_feed 25 = .ok (.bipush 20, 2) := by decide +kernel
theorem dX12_feed_27 : decode cX12_feed 27 = .ok (.if_icmp .ge 86, 3) := by decide +kernel
theorem dX12_feed_30 : decode cX12_feed 30 = .ok (.iload 6, 2) := by decide +kernel
theorem dX12_feed_32 : decode cX12_feed 32 = .ok (.iconst 4, 1) := by decide +kernel
theorem dX12_feed_33 : decode cX12_feed 33 = .ok (.if_icmp .ge 7, 3) := by decide +kernel
theorem dX12_feed_36 : decode cX12_feed 36 = .ok (.iload_n 1, 1) := by decide +kernel
theorem dX12_feed_37 : decode cX12_feed 37 = .ok (.goto 39, 3) := by decide +kernel
theorem dX12_feed_40 : decode cX12_feed 40 = .ok (.iload 6, 2) := by decide +kernel
theorem dX12_feed_42 : decode cX12_feed 42 = .ok (.bipush 8, 2) := by decide +kernel
theorem dX12_feed_44 : decode cX12_feed 44 = .ok (.if_icmp .ge 7, 3) := by decide +kernel
theorem dX12_feed_47 : decode cX12_feed 47 = .ok (.iload_n 2, 1) := by decide +kernel
theorem dX12_feed_48 : decode cX12_feed 48 = .ok (.goto 28, 3) := by decide +kernel
theorem dX12_feed_51 : decode cX12_feed 51 = .ok (.iload 6, 2) := by decide +kernel
theorem dX12_feed_53 : decode cX12_feed 53 = .ok (.bipush 12, 2) := by decide +kernel
theorem dX12_feed_55 : decode cX12_feed 55 = .ok (.if_icmp .ge 7, 3) := by decide +kernel
theorem dX12_feed_58 : decode cX12_feed 58 = .ok (.iload_n 3, 1) := by decide +kernel
theorem dX12_feed_59 : decode cX12_feed 59 = .ok (.goto 17, 3) := by decide +kernel
theorem dX12_feed_62 : decode cX12_feed 62 = .ok (.iload 6, 2) := by decide +kernel
theorem dX12_feed_64 : decode cX12_feed 64 = .ok (.bipush 16, 2) := by decide +kernel
theorem dX12_feed_66 : decode cX12_feed 66 = .ok (.if_icmp .ge 8, 3) := by decide +kernel
theorem dX12_feed_69 : decode cX12_feed 69 = .ok (.iload 4, 2) := by decide +kernel
theorem dX12_feed_71 : decode cX12_feed 71 = .ok (.goto 5, 3) := by decide +kernel
theorem dX12_feed_74 : decode cX12_feed 74 = .ok (.iload 5, 2) := by decide +kernel
theorem dX12_feed_76 : decode cX12_feed 76 = .ok (.istore 7, 2) := by decide +kernel
theorem dX12_feed_78 : decode cX12_feed 78 = .ok (.aload_n 0, 1) := by decide +kernel
theorem dX12_feed_79 : decode cX12_feed 79 = .ok (.getfield 7, 3) := by decide +kernel
theorem dX12_feed_82 : decode cX12_feed 82 = .ok (.aload_n 0, 1) := by decide +kernel
theorem dX12_feed_83 : decode cX12_feed 83 = .ok (.getfield 178, 3) := by decide +kernel
theorem dX12_feed_86 : decode cX12_feed 86 = .ok (.iload 6, 2) := by decide +kernel
theorem dX12_feed_88 : decode cX12_feed 88 = .ok (.iadd, 1) := by decide +kernel
theorem dX12_feed_89 : decode cX12_feed 89 = .ok (.iload 7, 2) := by decide +kernel
theorem dX12_feed_91 : decode cX12_feed 91 = .ok (.bipush 24, 2) := by decide +kernel
theorem dX12_feed_93 : decode cX12_feed 93 = .ok (.bipush 8, 2) := by decide +kernel
theorem dX12_feed_95 : decode cX12_feed 95 = .ok (.iload 6, 2) := by decide +kernel
theorem dX12_feed_97 : decode cX12_feed 97 = .ok (.iconst 4, 1) := by decide +kernel
theorem dX12_feed_98 : decode cX12_feed 98 = .ok (.irem, 1) := by decide +kernel
theorem dX12_feed_99 : decode cX12_feed 99 = .ok (.imul, 1) := by decide +kernel
theorem dX12_feed_100 : decode cX12_feed 100 = .ok (.isub, 1) := by decide +kernel
theorem dX12_feed_101 : decode cX12_feed 101 = .ok (.ishr, 1) := by decide +kernel
theorem dX12_feed_102 : decode cX12_feed 102 = .ok (.sipush 255, 3) := by decide +kernel
theorem dX12_feed_105 : decode cX12_feed 105 = .ok (.iand, 1) := by decide +kernel
theorem dX12_feed_106 : decode cX12_feed 106 = .ok (.iastore, 1) := by decide +kernel
theorem dX12_feed_107 : decode cX12_feed 107 = .ok (.iinc 6 1, 3) := by decide +kernel
theorem dX12_feed_110 : decode cX12_feed 110 = .ok (.goto (-87), 3) := by decide +kernel
theorem dX12_feed_113 : decode cX12_feed 113 = .ok (.aload_n 0, 1) := by decide +kernel
theorem dX12_feed_114 : decode cX12_feed 114 = .ok (.dup, 1) := by decide +kernel
theorem dX12_feed_115 : decode cX12_feed 115 = .ok (.getfield 178, 3) := by decide +kernel
theorem dX12_feed_118 : decode cX12_feed 118 = .ok (.bipush 20, 2) := by decide +kernel
theorem dX12_feed_120 : decode cX12_feed 120 = .ok (.iadd, 1) := by decide +kernel
theorem dX12_feed_121 : decode cX12_feed 121 = .ok (.putfield 178, 3) := by decide +kernel
theorem dX12_feed_124 : decode cX12_feed 124 = .ok (.aload_n 0, 1) := by decide +kernel
theorem dX12_feed_125 : decode cX12_feed 125 = .ok (.getfield 178, 3) := by decide +kernel
theorem dX12_feed_128 : decode cX12_feed 128 = .ok (.ireturn, 1) := by decide +kernel
theorem dX12_isIn_0 : decode cX12_isIn 0 = .ok (.iload_n 0, 1) := by decide +kernel
theorem dX12_isIn_1 : decode cX12_isIn 1 = .ok (.iload_n 1, 1) := by decide +kernel
theorem dX12_isIn_2 : decode cX12_isIn 2 = .ok (.if_icmp .lt 12, 3) := by decide +kernel
theorem dX12_isIn_5 : decode cX12_isIn 5 = .ok (.iload_n 0, 1) := by decide +kernel
theorem dX12_isIn_6 : decode cX12_isIn 6 = .ok (.iload_n 2, 1) := by decide +kernel
theorem dX12_isIn_7 : decode cX12_isIn 7 = .ok (.if_icmp .gt 7, 3) := by decide +kernel
theorem dX12_isIn_10 : decode cX12_isIn 10 = .ok (.iconst 1, 1) := by decide +kernel
theorem dX12_isIn_11 : decode cX12_isIn 11 = .ok (.goto 4, 3) := by decide +kernel
theorem dX12_isIn_14 : decode cX12_isIn 14 = .ok (.iconst 0, 1) := by decide +kernel
theorem dX12_isIn_15 : decode cX12_isIn 15 = .ok (.ireturn, 1) := by decide +kernel
theorem dX12_isOf_0 : decode cX12_isOf 0 = .ok (.iload_n 0, 1) := by decide +kernel
theorem dX12_isOf_1 : decode cX12_isOf 1 = .ok (.iload_n 1, 1) := by decide +kernel
theorem dX12_isOf_2 : decode cX12_isOf 2 = .ok (.ishr, 1) := by decide +kernel
theorem dX12_isOf_3 : decode cX12_isOf 3 = .ok (.iconst 1, 1) := by decide +kernel
theorem dX12_isOf_4 : decode cX12_isOf 4 = .ok (.iand, 1) := by decide +kernel
theorem dX12_isOf_5 : decode cX12_isOf 5 = .ok (.iconst 1, 1) := by decide +kernel
theorem dX12_isOf_6 : decode cX12_isOf 6 = .ok (.if_icmp .ne 7, 3) := by decide +kernel
theorem dX12_isOf_9 : decode cX12_isOf 9 = .ok (.iconst 1, 1) := by decide +kernel
theorem dX12_isOf_10 : decode cX12_isOf 10 = .ok (.goto 4, 3) := by decide +kernel
theorem dX12_isOf_13 : decode cX12_isOf 13 = .ok (.iconst 0, 1) := by decide +kernel
theorem dX12_isOf_14 : decode cX12_isOf 14 = .ok (.ireturn, 1) := by decide +kernel
theorem dX12_wrong_0 : decode cX12_wrong 0 = .ok (.aload_n 0, 1) := by decide +kernel
theorem dX12_wrong_1 : decode cX12_wrong 1 = .ok (.iload_n 1, 1) := by decide +kernel
theorem dX12_wrong_2 : decode cX12_wrong 2 = .ok (.putfield 181, 3) := by decide +kernel
theorem dX12_wrong_5 : decode cX12_wrong 5 = .ok (.aload_n 0, 1) := by decide +kernel
theorem dX12_wrong_6 : decode cX12_wrong 6 = .ok (.aload_n 0, 1) := by decide +kernel
theorem dX12_wrong_7 : decode cX12_wrong 7 = .ok (.getfield 184, 3) := by decide +kernel
theorem dX12_wrong_10 : decode cX12_wrong 10 = .ok (.putfield 16, 3) := by decide +kernel
theorem dX12_wrong_13 : decode cX12_wrong 13 = .ok (.iconst 0, 1) := by decide +kernel
theorem dX12_wrong_14 : decode cX12_wrong 14 = .ok (.ireturn, 1) := by decide +kernel
theorem dX12_wordAt_0 : decode cX12_wordAt 0 = .ok (.iconst 0, 1) := by decide +kernel
theorem dX12_wordAt_1 : decode cX12_wordAt 1 = .ok (.istore_n 3, 1) := by decide +kernel
theorem dX12_wordAt_2 : decode cX12_wordAt 2 = .ok (.iconst 0, 1) := by decide +kernel
theorem dX12_wordAt_3 : decode cX12_wordAt 3 = .ok (.istore 4, 2) := by decide +kernel
theorem dX12_wordAt_5 : decode cX12_wordAt 5 = .ok (.iload 4, 2) := by decide +kernel
theorem dX12_wordAt_7 : decode cX12_wordAt 7 = .ok (.aload_n 0, 1) := by decide +kernel
theorem dX12_wordAt_8 : decode cX12_wordAt 8 = .ok (.getfield 13, 3) := by decide +kernel
theorem dX12_wordAt_11 : decode cX12_wordAt 11 = .ok (.arraylength, 1) := by decide +kernel
theorem dX12_wordAt_12 : decode cX12_wordAt 12 = .ok (.if_icmp .ge 114, 3) := by decide +kernel
theorem dX12_wordAt_15 : decode cX12_wordAt 15 = .ok (.iconst 0, 1) := by decide +kernel
theorem dX12_wordAt_16 : decode cX12_wordAt 16 = .ok (.istore 5, 2) := by decide +kernel
theorem dX12_wordAt_18 : decode cX12_wordAt 18 = .ok (.aload_n 0, 1) := by decide +kernel
theorem dX12_wordAt_19 : decode cX12_wordAt 19 = .ok (.getfield 13, 3) := by decide +kernel
theorem dX12_wordAt_22 : decode cX12_wordAt 22 = .ok (.iload 4, 2) := by decide +kernel
theorem dX12_wordAt_24 : decode cX12_wordAt 24 = .ok (.iload 5, 2) := by decide +kernel
theorem dX12_wordAt_26 : decode cX12_wordAt 26 = .ok (.iadd, 1) := by decide +kernel
theorem dX12_wordAt_27 : decode cX12_wordAt 27 = .ok (.iaload, 1) := by decide +kernel
theorem dX12_wordAt_28 : decode cX12_wordAt 28 = .ok (.bipush 32, 2) := by decide +kernel
theorem dX12_wordAt_30 : decode cX12_wordAt 30 = .ok (.if_icmp .eq 9, 3) := by decide +kernel
theorem dX12_wordAt_33 : decode cX12_wordAt 33 = .ok (.iinc 5 1, 3) := by decide +kernel
theorem dX12_wordAt_36 : decode cX12_wordAt 36 = .ok (.goto (-18), 3) := by decide +kernel
theorem dX12_wordAt_39 : decode cX12_wordAt 39 = .ok (.iload 5, 2) := by decide +kernel
theorem dX12_wordAt_41 : decode cX12_wordAt 41 = .ok (.iload_n 2, 1) := by decide +kernel
theorem dX12_wordAt_42 : decode cX12_wordAt 42 = .ok (.iload_n 1, 1) := by decide +kernel
theorem dX12_wordAt_43 : decode cX12_wordAt 43 = .ok (.isub, 1) := by decide +kernel
theorem dX12_wordAt_44 : decode cX12_wordAt 44 = .ok (.if_icmp .ne 7, 3) := by decide +kernel
theorem dX12_wordAt_47 : decode cX12_wordAt 47 = .ok (.iconst 1, 1) := by decide +kernel
theorem dX12_wordAt_48 : decode cX12_wordAt 48 = .ok (.goto 4, 3) := by decide +kernel
theorem dX12_wordAt_51 : decode cX12_wordAt 51 = .ok (.iconst 0, 1) := by decide +kernel
theorem dX12_wordAt_52 : decode cX12_wordAt 52 = .ok (.istore 6, 2) := by decide +kernel
theorem dX12_wordAt_54 : decode cX12_wordAt 54 = .ok (.iconst 0, 1) := by decide +kernel
theorem dX12_wordAt_55 : decode cX12_wordAt 55 = .ok (.istore 7, 2) := by decide +kernel
theorem dX12_wordAt_57 : decode cX12_wordAt 57 = .ok (.iload 7, 2) := by decide +kernel
theorem dX12_wordAt_59 : decode cX12_wordAt 59 = .ok (.iload 5, 2) := by decide +kernel
theorem dX12_wordAt_61 : decode cX12_wordAt 61 = .ok (.if_icmp .ge 43, 3) := by decide +kernel
theorem dX12_wordAt_64 : decode cX12_wordAt 64 = .ok (.iload 6, 2) := by decide +kernel
theorem dX12_wordAt_66 : decode cX12_wordAt 66 = .ok (.ifCond .eq 38, 3) := by decide +kernel
theorem dX12_wordAt_69 : decode cX12_wordAt 69 = .ok (.aload_n 0, 1) := by decide +kernel
theorem dX12_wordAt_70 : decode cX12_wordAt 70 = .ok (.getfield 13, 3) := by decide +kernel
theorem dX12_wordAt_73 : decode cX12_wordAt 73 = .ok (.iload 4, 2) := by decide +kernel
theorem dX12_wordAt_75 : decode cX12_wordAt 75 = .ok (.iload 7, 2) := by decide +kernel
theorem dX12_wordAt_77 : decode cX12_wordAt 77 = .ok (.iadd, 1) := by decide +kernel
theorem dX12_wordAt_78 : decode cX12_wordAt 78 = .ok (.iaload, 1) := by decide +kernel
theorem dX12_wordAt_79 : decode cX12_wordAt 79 = .ok (.aload_n 0, 1) := by decide +kernel
theorem dX12_wordAt_80 : decode cX12_wordAt 80 = .ok (.getfield 7, 3) := by decide +kernel
theorem dX12_wordAt_83 : decode cX12_wordAt 83 = .ok (.iload_n 1, 1) := by decide +kernel
theorem dX12_wordAt_84 : decode cX12_wordAt 84 = .ok (.iload 7, 2) := by decide +kernel
theorem dX12_wordAt_86 : decode cX12_wordAt 86 = .ok (.iadd, 1) := by decide +kernel
theorem dX12_wordAt_87 : decode cX12_wordAt 87 = .ok (.iaload, 1) := by decide +kernel
theorem dX12_wordAt_88 : decode cX12_wordAt 88 = .ok (.if_icmp .ne 7, 3) := by decide +kernel
theorem dX12_wordAt_91 : decode cX12_wordAt 91 = .ok (.iconst 1, 1) := by decide +kernel
theorem dX12_wordAt_92 : decode cX12_wordAt 92 = .ok (.goto 4, 3) := by decide +kernel
theorem dX12_wordAt_95 : decode cX12_wordAt 95 = .ok (.iconst 0, 1) := by decide +kernel
theorem dX12_wordAt_96 : decode cX12_wordAt 96 = .ok (.istore 6, 2) := by decide +kernel
theorem dX12_wordAt_98 : decode cX12_wordAt 98 = .ok (.iinc 7 1, 3) := by decide +kernel
theorem dX12_wordAt_101 : decode cX12_wordAt 101 = .ok (.goto (-44), 3) := by decide +kernel
theorem dX12_wordAt_104 : decode cX12_wordAt 104 = .ok (.iload 6, 2) := by decide +kernel
theorem dX12_wordAt_106 : decode cX12_wordAt 106 = .ok (.ifCond .eq 5, 3) := by decide +kernel
theorem dX12_wordAt_109 : decode cX12_wordAt 109 = .ok (.iload_n 3, 1) := by decide +kernel
theorem dX12_wordAt_110 : decode cX12_wordAt 110 = .ok (.ireturn, 1) := by decide +kernel
theorem dX12_wordAt_111 : decode cX12_wordAt 111 = .ok (.iload 4, 2) := by decide +kernel
theorem dX12_wordAt_113 : decode cX12_wordAt 113 = .ok (.iload 5, 2) := by decide +kernel
theorem dX12_wordAt_115 : decode cX12_wordAt 115 = .ok (.iconst 1, 1) := by decide +kernel
theorem dX12_wordAt_116 : decode cX12_wordAt 116 = .ok (.iadd, 1) := by decide +kernel
theorem dX12_wordAt_117 : decode cX12_wordAt 117 = .ok (.iadd, 1) := by decide +kernel
theorem dX12_wordAt_118 : decode cX12_wordAt 118 = .ok (.istore 4, 2) := by decide +kernel
theorem dX12_wordAt_120 : decode cX12_wordAt 120 = .ok (.iinc 3 1, 3) := by decide +kernel
theorem dX12_wordAt_123 : decode cX12_wordAt 123 = .ok (.goto (-118), 3) := by decide +kernel
theorem dX12_wordAt_126 : decode cX12_wordAt 126 = .ok (.iconst (-1), 1) := by decide +kernel
theorem dX12_wordAt_127 : decode cX12_wordAt 127 = .ok (.ireturn, 1) := by decide +kernel
theorem dX12_isSmall_0 : decode cX12_isSmall 0 = .ok (.iload_n 1, 1) := by decide +kernel
theorem dX12_isSmall_1 : decode cX12_isSmall 1 = .ok (.aload_n 0, 1) := by decide +kernel
theorem dX12_isSmall_2 : decode cX12_isSmall 2 = .ok (.getfield 187, 3) := by decide +kernel
theorem dX12_isSmall_5 : decode cX12_isSmall 5 = .ok (.if_icmp .ge 29, 3) := by decide +kernel
theorem dX12_isSmall_8 : decode cX12_isSmall 8 = .ok (.aload_n 0, 1) := by decide +kernel
theorem dX12_isSmall_9 : decode cX12_isSmall 9 = .ok (.getfield 7, 3) := by decide +kernel
theorem dX12_isSmall_12 : decode cX12_isSmall 12 = .ok (.iload_n 1, 1) := by decide +kernel
theorem dX12_isSmall_13 : decode cX12_isSmall 13 = .ok (.iaload, 1) := by decide +kernel
theorem dX12_isSmall_14 : decode cX12_isSmall 14 = .ok (.bipush 97, 2) := by decide +kernel
theorem dX12_isSmall_16 : decode cX12_isSmall 16 = .ok (.if_icmp .lt 18, 3) := by decide +kernel
theorem dX12_isSmall_19 : decode cX12_isSmall 19 = .ok (.aload_n 0, 1) := by decide +kernel
theorem dX12_isSmall_20 : decode cX12_isSmall 20 = .ok (.getfield 7, 3) := by decide +kernel
theorem dX12_isSmall_23 : decode cX12_isSmall 23 = .ok (.iload_n 1, 1) := by decide +kernel
theorem dX12_isSmall_24 : decode cX12_isSmall 24 = .ok (.iaload, 1) := by decide +kernel
theorem dX12_isSmall_25 : decode cX12_isSmall 25 = .ok (.bipush 122, 2) := by decide +kernel
theorem dX12_isSmall_27 : decode cX12_isSmall 27 = .ok (.if_icmp .gt 7, 3) := by decide +kernel
theorem dX12_isSmall_30 : decode cX12_isSmall 30 = .ok (.iconst 1, 1) := by decide +kernel
theorem dX12_isSmall_31 : decode cX12_isSmall 31 = .ok (.goto 4, 3) := by decide +kernel
theorem dX12_isSmall_34 : decode cX12_isSmall 34 = .ok (.iconst 0, 1) := by decide +kernel
theorem dX12_isSmall_35 : decode cX12_isSmall 35 = .ok (.ireturn, 1) := by decide +kernel
theorem dX12_isDigit_0 : decode cX12_isDigit 0 = .ok (.iload_n 1, 1) := by decide +kernel
theorem dX12_isDigit_1 : decode cX12_isDigit 1 = .ok (.aload_n 0, 1) := by decide +kernel
theorem dX12_isDigit_2 : decode cX12_isDigit 2 = .ok (.getfield 187, 3) := by decide +kernel
theorem dX12_isDigit_5 : decode cX12_isDigit 5 = .ok (.if_icmp .ge 29, 3) := by decide +kernel
theorem dX12_isDigit_8 : decode cX12_isDigit 8 = .ok (.aload_n 0, 1) := by decide +kernel
theorem dX12_isDigit_9 : decode cX12_isDigit 9 = .ok (.getfield 7, 3) := by decide +kernel
theorem dX12_isDigit_12 : decode cX12_isDigit 12 = .ok (.iload_n 1, 1) := by decide +kernel
theorem dX12_isDigit_13 : decode cX12_isDigit 13 = .ok (.iaload, 1) := by decide +kernel
theorem dX12_isDigit_14 : decode cX12_isDigit 14 = .ok (.bipush 48, 2) := by decide +kernel
theorem dX12_isDigit_16 : decode cX12_isDigit 16 = .ok (.if_icmp .lt 18, 3) := by decide +kernel
theorem dX12_isDigit_19 : decode cX12_isDigit 19 = .ok (.aload_n 0, 1) := by decide +kernel
theorem dX12_isDigit_20 : decode cX12_isDigit 20 = .ok (.getfield 7, 3) := by decide +kernel
theorem dX12_isDigit_23 : decode cX12_isDigit 23 = .ok (.iload_n 1, 1) := by decide +kernel
theorem dX12_isDigit_24 : decode cX12_isDigit 24 = .ok (.iaload, 1) := by decide +kernel
theorem dX12_isDigit_25 : decode cX12_isDigit 25 = .ok (.bipush 57, 2) := by decide +kernel
theorem dX12_isDigit_27 : decode cX12_isDigit 27 = .ok (.if_icmp .gt 7, 3) := by decide +kernel
theorem dX12_isDigit_30 : decode cX12_isDigit 30 = .ok (.iconst 1, 1) := by decide +kernel
theorem dX12_isDigit_31 : decode cX12_isDigit 31 = .ok (.goto 4, 3) := by decide +kernel
theorem dX12_isDigit_34 : decode cX12_isDigit 34 = .ok (.iconst 0, 1) := by decide +kernel
theorem dX12_isDigit_35 : decode cX12_isDigit 35 = .ok (.ireturn, 1) := by decide +kernel
theorem dX12_token_0 : decode cX12_token 0 = .ok (.aload_n 0, 1) := by decide +kernel
theorem dX12_token_1 : decode cX12_token 1 = .ok (.getfield 190, 3) := by decide +kernel
theorem dX12_token_4 : decode cX12_token 4 = .ok (.aload_n 0, 1) := by decide +kernel
theorem dX12_token_5 : decode cX12_token 5 = .ok (.getfield 187, 3) := by decide +kernel
theorem dX12_token_8 : decode cX12_token 8 = .ok (.if_icmp .ge 44, 3) := by decide +kernel
theorem dX12_token_11 : decode cX12_token 11 = .ok (.aload_n 0, 1) := by decide +kernel
theorem dX12_token_12 : decode cX12_token 12 = .ok (.getfield 7, 3) := by decide +kernel
theorem dX12_token_15 : decode cX12_token 15 = .ok (.aload_n 0, 1) := by decide +kernel
theorem dX12_token_16 : decode cX12_token 16 = .ok (.getfield 190, 3) := by decide +kernel
theorem dX12_token_19 : decode cX12_token 19 = .ok (.iaload, 1) := by decide +kernel
theorem dX12_token_20 : decode cX12_token 20 = .ok (.bipush 10, 2) := by decide +kernel
theorem dX12_token_22 : decode cX12_token 22 = .ok (.if_icmp .eq 17, 3) := by decide +kernel
theorem dX12_token_25 : decode cX12_token 25 = .ok (.aload_n 0, 1) := by decide +kernel
theorem dX12_token_26 : decode cX12_token 26 = .ok (.getfield 7, 3) := by decide +kernel
theorem dX12_token_29 : decode cX12_token 29 = .ok (.aload_n 0, 1) := by decide +kernel
theorem dX12_token_30 : decode cX12_token 30 = .ok (.getfield 190, 3) := by decide +kernel
theorem dX12_token_33 : decode cX12_token 33 = .ok (.iaload, 1) := by decide +kernel
theorem dX12_token_34 : decode cX12_token 34 = .ok (.bipush 32, 2) := by decide +kernel
theorem dX12_token_36 : decode cX12_token 36 = .ok (.if_icmp .ne 16, 3) := by decide +kernel
theorem dX12_token_39 : decode cX12_token 39 = .ok (.aload_n 0, 1) := by decide +kernel
theorem dX12_token_40 : decode cX12_token 40 = .ok (.dup, 1) := by decide +kernel
theorem dX12_token_41 : decode cX12_token 41 = .ok (.getfield 190, 3) := by decide +kernel
theorem dX12_token_44 : decode cX12_token 44 = .ok (.iconst 1, 1) := by decide +kernel
theorem dX12_token_45 : decode cX12_token 45 = .ok (.iadd, 1) := by decide +kernel
theorem dX12_token_46 : decode cX12_token 46 = .ok (.putfield 190, 3) := by decide +kernel
theorem dX12_token_49 : decode cX12_token 49 = .ok (.goto (-49), 3) := by decide +kernel
theorem dX12_token_52 : decode cX12_token 52 = .ok (.aload_n 0, 1) := by decide +kernel
theorem dX12_token_53 : decode cX12_token 53 = .ok (.aload_n 0, 1) := by decide +kernel
theorem dX12_token_54 : decode cX12_token 54 = .ok (.getfield 190, 3) := by decide +kernel
theorem dX12_token_57 : decode cX12_token 57 = .ok (.putfield 184, 3) := by decide +kernel
theorem dX12_token_60 : decode cX12_token 60 = .ok (.aload_n 0, 1) := by decide +kernel
theorem dX12_token_61 : decode cX12_token 61 = .ok (.getfield 190, 3) := by decide +kernel
theorem dX12_token_64 : decode cX12_token 64 = .ok (.aload_n 0, 1) := by decide +kernel
theorem dX12_token_65 : decode cX12_token 65 = .ok (.getfield 187, 3) := by decide +kernel
theorem dX12_token_68 : decode cX12_token 68 = .ok (.if_icmp .ne 11, 3) := by decide +kernel
theorem dX12_token_71 : decode cX12_token 71 = .ok (.aload_n 0, 1) := by decide +kernel
theorem dX12_token_72 : decode cX12_token 72 = .ok (.iconst 0, 1) := by decide +kernel
theorem dX12_token_73 : decode cX12_token 73 = .ok (.putfield 193, 3) := by decide +kernel
theorem dX12_token_76 : decode cX12_token 76 = .ok (.goto 205, 3) := by decide +kernel
theorem dX12_token_79 : decode cX12_token 79 = .ok (.aload_n 0, 1) := by decide +kernel
theorem dX12_token_80 : decode cX12_token 80 = .ok (.aload_n 0, 1) := by decide +kernel
theorem dX12_token_81 : decode cX12_token 81 = .ok (.getfield 190, 3) := by decide +kernel
theorem dX12_token_84 : decode cX12_token 84 = .ok (.invokevirtual 196, 3) := by decide +kernel
theorem dX12_token_87 : decode cX12_token 87 = .ok (.ifCond .eq 105, 3) := by decide +kernel
theorem dX12_token_90 : decode cX12_token 90 = .ok (.aload_n 0, 1) := by decide +kernel
theorem dX12_token_91 : decode cX12_token 91 = .ok (.aload_n 0, 1) := by decide +kernel
theorem dX12_token_92 : decode cX12_token 92 = .ok (.getfield 190, 3) := by decide +kernel
theorem dX12_token_95 : decode cX12_token 95 = .ok (.invokevirtual 196, 3) := by decide +kernel
theorem dX12_token_98 : decode cX12_token 98 = .ok (.ifCond .eq 16, 3) := by decide +kernel
theorem dX12_token_101 : decode cX12_token 101 = .ok (.aload_n 0, 1) := by decide +kernel
theorem dX12_token_102 : decode cX12_token 102 = .ok (.dup, 1) := by decide +kernel
theorem dX12_token_103 : decode cX12_token 103 = .ok (.getfield 190, 3) := by decide +kernel
theorem dX12_token_106 : decode cX12_token 106 = .ok (.iconst 1, 1) := by decide +kernel
theorem dX12_token_107 : decode cX12_token 107 = .ok (.iadd, 1) := by decide +kernel
theorem dX12_token_108 : decode cX12_token 108 = .ok (.putfield 190, 3) := by decide +kernel
theorem dX12_token_111 : decode cX12_token 111 = .ok (.goto (-21), 3) := by decide +kernel
theorem dX12_token_114 : decode cX12_token 114 = .ok (.aload_n 0, 1) := by decide +kernel
theorem dX12_token_115 : decode cX12_token 115 = .ok (.aload_n 0, 1) := by decide +kernel
theorem dX12_token_116 : decode cX12_token 116 = .ok (.aload_n 0, 1) := by decide +kernel
theorem dX12_token_117 : decode cX12_token 117 = .ok (.getfield 184, 3) := by decide +kernel
theorem dX12_token_120 : decode cX12_token 120 = .ok (.aload_n 0, 1) := by decide +kernel
theorem dX12_token_121 : decode cX12_token 121 = .ok (.getfield 190, 3) := by decide +kernel
theorem dX12_token_124 : decode cX12_token 124 = .ok (.invokevirtual 200, 3) := by decide +kernel
theorem dX12_token_127 : decode cX12_token 127 = .ok (.putfield 204, 3) := by decide +kernel
theorem dX12_token_130 : decode cX12_token 130 = .ok (.aload_n 0, 1) := by decide +kernel
theorem dX12_token_131 : decode cX12_token 131 = .ok (.aload_n 0, 1) := by decide +kernel
theorem dX12_token_132 : decode cX12_token 132 = .ok (.getfield 204, 3) := by decide +kernel
theorem dX12_token_135 : decode cX12_token 135 = .ok (.ifCond .lt 7, 3) := by decide +kernel
theorem dX12_token_138 : decode cX12_token 138 = .ok (.iconst 1, 1) := by decide +kernel
theorem dX12_token_139 : decode cX12_token 139 = .ok (.goto 23, 3) := by decide +kernel
theorem dX12_token_142 : decode cX12_token 142 = .ok (.aload_n 0, 1) := by decide +kernel
theorem dX12_token_143 : decode cX12_token 143 = .ok (.getfield 190, 3) := by decide +kernel
theorem dX12_token_146 : decode cX12_token 146 = .ok (.aload_n 0, 1) := by decide +kernel
theorem dX12_token_147 : decode cX12_token 147 = .ok (.getfield 184, 3) := by decide +kernel
theorem dX12_token_150 : decode cX12_token 150 = .ok (.isub, 1) := by decide +kernel
theorem dX12_token_151 : decode cX12_token 151 = .ok (.bipush 6, 2) := by decide +kernel
theorem dX12_token_153 : decode cX12_token 153 = .ok (.if_icmp .le 8, 3) := by decide +kernel
theorem dX12_token_156 : decode cX12_token 156 = .ok (.bipush 6, 2) := by decide +kernel
theorem dX12_token_158 : decode cX12_token 158 = .ok (.goto 4, 3) := by decide +kernel
theorem dX12_token_161 : decode cX12_token 161 = .ok (.iconst 2, 1) := by decide +kernel
theorem dX12_token_162 : decode cX12_token 162 = .ok (.putfield 193, 3) := by decide +kernel
theorem dX12_token_165 : decode cX12_token 165 = .ok (.aload_n 0, 1) := by decide +kernel
theorem dX12_token_166 : decode cX12_token 166 = .ok (.getfield 193, 3) := by decide +kernel
theorem dX12_token_169 : decode cX12_token 169 = .ok (.iconst 2, 1) := by decide +kernel
theorem dX12_token_170 : decode cX12_token 170 = .ok (.if_icmp .ne 111, 3) := by decide +kernel
theorem dX12_token_173 : decode cX12_token 173 = .ok (.aload_n 0, 1) := by decide +kernel
theorem dX12_token_174 : decode cX12_token 174 = .ok (.aload_n 0, 1) := by decide +kernel
theorem dX12_token_175 : decode cX12_token 175 = .ok (.aload_n 0, 1) := by decide +kernel
theorem dX12_token_176 : decode cX12_token 176 = .ok (.getfield 184, 3) := by decide +kernel
theorem dX12_token_179 : decode cX12_token 179 = .ok (.aload_n 0, 1) := by decide +kernel
theorem dX12_token_180 : decode cX12_token 180 = .ok (.getfield 190, 3) := by decide +kernel
theorem dX12_token_183 : decode cX12_token 183 = .ok (.invokevirtual 207, 3) := by decide +kernel
theorem dX12_token_186 : decode cX12_token 186 = .ok (.putfield 204, 3) := by decide +kernel
theorem dX12_token_189 : decode cX12_token 189 = .ok (.goto 92, 3) := by decide +kernel
theorem dX12_token_192 : decode cX12_token 192 = .ok (.aload_n 0, 1) := by decide +kernel
theorem dX12_token_193 : decode cX12_token 193 = .ok (.aload_n 0, 1) := by decide +kernel
theorem dX12_token_194 : decode cX12_token 194 = .ok (.getfield 190, 3) := by decide +kernel
theorem dX12_token_197 : decode cX12_token 197 = .ok (.invokevirtual 210, 3) := by decide +kernel
theorem dX12_token_200 : decode cX12_token 200 = .ok (.ifCond .eq 77, 3) := by decide +kernel
theorem dX12_token_203 : decode cX12_token 203 = .ok (.aload_n 0, 1) := by decide +kernel
theorem dX12_token_204 : decode cX12_token 204 = .ok (.iconst 3, 1) := by decide +kernel
theorem dX12_token_205 : decode cX12_token 205 = .ok (.putfield 193, 3) := by decide +kernel
theorem dX12_token_208 : decode cX12_token 208 = .ok (.aload_n 0, 1) := by decide +kernel
theorem dX12_token_209 : decode cX12_token 209 = .ok (.iconst 0, 1) := by decide +kernel
theorem dX12_token_210 : decode cX12_token 210 = .ok (.putfield 204, 3) := by decide +kernel
theorem dX12_token_213 : decode cX12_token 213 = .ok (.aload_n 0, 1) := by decide +kernel
theorem dX12_token_214 : decode cX12_token 214 = .ok (.aload_n 0, 1) := by decide +kernel
theorem dX12_token_215 : decode cX12_token 215 = .ok (.getfield 190, 3) := by decide +kernel
theorem dX12_token_218 : decode cX12_token 218 = .ok (.invokevirtual 210, 3) := by decide +kernel
theorem dX12_token_221 : decode cX12_token 221 = .ok (.ifCond .eq 60, 3) := by decide +kernel
theorem dX12_token_224 : decode cX12_token 224 = .ok (.aload_n 0, 1) := by decide +kernel
theorem dX12_token_225 : decode cX12_token 225 = .ok (.aload_n 0, 1) := by decide +kernel
theorem dX12_token_226 : decode cX12_token 226 = .ok (.getfield 204, 3) := by decide +kernel
theorem dX12_token_229 : decode cX12_token 229 = .ok (.ldc 213, 2) := by decide +kernel
theorem dX12_token_231 : decode cX12_token 231 = .ok (.if_icmp .le 10, 3) := by decide +kernel
theorem dX12_token_234 : decode cX12_token 234 = .ok (.aload_n 0, 1) := by decide +kernel
theorem dX12_token_235 : decode cX12_token 235 = .ok (.getfield 204, 3) := by decide +kernel
theorem dX12_token_238 : decode cX12_token 238 = .ok (.goto 23, 3) := by decide +kernel
theorem dX12_token_241 : decode cX12_token 241 = .ok (.bipush 10, 2) := by decide +kernel
theorem dX12_token_243 : decode cX12_token 243 = .ok (.aload_n 0, 1) := by decide +kernel
theorem dX12_token_244 : decode cX12_token 244 = .ok (.getfield 204, 3) := by decide +kernel
theorem dX12_token_247 : decode cX12_token 247 = .ok (.imul, 1) := by decide +kernel
theorem dX12_token_248 : decode cX12_token 248 = .ok (.aload_n 0, 1) := by decide +kernel
theorem dX12_token_249 : decode cX12_token 249 = .ok (.getfield 7, 3) := by decide +kernel
theorem dX12_token_252 : decode cX12_token 252 = .ok (.aload_n 0, 1) := by decide +kernel
theorem dX12_token_253 : decode cX12_token 253 = .ok (.getfield 190, 3) := by decide +kernel
theorem dX12_token_256 : decode cX12_token 256 = .ok (.iaload, 1) := by decide +kernel
theorem dX12_token_257 : decode cX12_token 257 = .ok (.iadd, 1) := by decide +kernel
theorem dX12_token_258 : decode cX12_token 258 = .ok (.bipush 48, 2) := by decide +kernel
theorem dX12_token_260 : decode cX12_token 260 = .ok (.isub, 1) := by decide +kernel
theorem dX12_token_261 : decode cX12_token 261 = .ok (.putfield 204, 3) := by decide +kernel
theorem dX12_token_264 : decode cX12_token 264 = .ok (.aload_n 0, 1) := by decide +kernel
theorem dX12_token_265 : decode cX12_token 265 = .ok (.dup, 1) := by decide +kernel
theorem dX12_token_266 : decode cX12_token 266 = .ok (.getfield 190, 3) := by decide +kernel
theorem dX12_token_269 : decode cX12_token 269 = .ok (.iconst 1, 1) := by decide +kernel
theorem dX12_token_270 : decode cX12_token 270 = .ok (.iadd, 1) := by decide +kernel
theorem dX12_token_271 : decode cX12_token 271 = .ok (.putfield 190, 3) := by decide +kernel
theorem dX12_token_274 : decode cX12_token 274 = .ok (.goto (-61), 3) := by decide +kernel
theorem dX12_token_277 : decode cX12_token 277 = .ok (.aload_n 0, 1) := by decide +kernel
theorem dX12_token_278 : decode cX12_token 278 = .ok (.invokevirtual 214, 3) := by decide +kernel
theorem dX12_token_281 : decode cX12_token 281 = .ok (.return_, 1) := by decide +kernel
theorem dX12_signToken_0 : decode cX12_signToken 0 = .ok (.aload_n 0, 1) := by decide +kernel
theorem dX12_signToken_1 : decode cX12_signToken 1 = .ok (.aload_n 0, 1) := by decide +kernel
theorem dX12_signToken_2 : decode cX12_signToken 2 = .ok (.getfield 7, 3) := by decide +kernel
theorem dX12_signToken_5 : decode cX12_signToken 5 = .ok (.aload_n 0, 1) := by decide +kernel
theorem dX12_signToken_6 : decode cX12_signToken 6 = .ok (.getfield 190, 3) := by decide +kernel
theorem dX12_signToken_9 : decode cX12_signToken 9 = .ok (.iaload, 1) := by decide +kernel
theorem dX12_signToken_10 : decode cX12_signToken 10 = .ok (.putfield 204, 3) := by decide +kernel
theorem dX12_signToken_13 : decode cX12_signToken 13 = .ok (.aload_n 0, 1) := by decide +kernel
theorem dX12_signToken_14 : decode cX12_signToken 14 = .ok (.dup, 1) := by decide +kernel
theorem dX12_signToken_15 : decode cX12_signToken 15 = .ok (.getfield 190, 3) := by decide +kernel
theorem dX12_signToken_18 : decode cX12_signToken 18 = .ok (.iconst 1, 1) := by decide +kernel
theorem dX12_signToken_19 : decode cX12_signToken 19 = .ok (.iadd, 1) := by decide +kernel
theorem dX12_signToken_20 : decode cX12_signToken 20 = .ok (.putfield 190, 3) := by decide +kernel
theorem dX12_signToken_23 : decode cX12_signToken 23 = .ok (.aload_n 0, 1) := by decide +kernel
theorem dX12_signToken_24 : decode cX12_signToken 24 = .ok (.getfield 204, 3) := by decide +kernel
theorem dX12_signToken_27 : decode cX12_signToken 27 = .ok (.bipush 60, 2) := by decide +kernel
theorem dX12_signToken_29 : decode cX12_signToken 29 = .ok (.if_icmp .eq 21, 3) := by decide +kernel
theorem dX12_signToken_32 : decode cX12_signToken 32 = .ok (.aload_n 0, 1) := by decide +kernel
theorem dX12_signToken_33 : decode cX12_signToken 33 = .ok (.getfield 204, 3) := by decide +kernel
theorem dX12_signToken_36 : decode cX12_signToken 36 = .ok (.bipush 62, 2) := by decide +kernel
theorem dX12_signToken_38 : decode cX12_signToken 38 = .ok (.if_icmp .eq 12, 3) := by decide +kernel
theorem dX12_signToken_41 : decode cX12_signToken 41 = .ok (.aload_n 0, 1) := by decide +kernel
theorem dX12_signToken_42 : decode cX12_signToken 42 = .ok (.getfield 204, 3) := by decide +kernel
theorem dX12_signToken_45 : decode cX12_signToken 45 = .ok (.bipush 61, 2) := by decide +kernel
theorem dX12_signToken_47 : decode cX12_signToken 47 = .ok (.if_icmp .ne 151, 3) := by decide +kernel
theorem dX12_signToken_50 : decode cX12_signToken 50 = .ok (.aload_n 0, 1) := by decide +kernel
theorem dX12_signToken_51 : decode cX12_signToken 51 = .ok (.getfield 190, 3) := by decide +kernel
theorem dX12_signToken_54 : decode cX12_signToken 54 = .ok (.aload_n 0, 1) := by decide +kernel
theorem dX12_signToken_55 : decode cX12_signToken 55 = .ok (.getfield 187, 3) := by decide +kernel
theorem dX12_signToken_58 : decode cX12_signToken 58 = .ok (.if_icmp .ge 15, 3) := by decide +kernel
theorem dX12_signToken_61 : decode cX12_signToken 61 = .ok (.aload_n 0, 1) := by decide +kernel
theorem dX12_signToken_62 : decode cX12_signToken 62 = .ok (.getfield 7, 3) := by decide +kernel
theorem dX12_signToken_65 : decode cX12_signToken 65 = .ok (.aload_n 0, 1) := by decide +kernel
theorem dX12_signToken_66 : decode cX12_signToken 66 = .ok (.getfield 190, 3) := by decide +kernel
theorem dX12_signToken_69 : decode cX12_signToken 69 = .ok (.iaload, 1) := by decide +kernel
theorem dX12_signToken_70 : decode cX12_signToken 70 = .ok (.goto 4, 3) := by decide +kernel
theorem dX12_signToken_73 : decode cX12_signToken 73 = .ok (.iconst 0, 1) := by decide +kernel
theorem dX12_signToken_74 : decode cX12_signToken 74 = .ok (.istore_n 1, 1) := by decide +kernel
theorem dX12_signToken_75 : decode cX12_signToken 75 = .ok (.aload_n 0, 1) := by decide +kernel
theorem dX12_signToken_76 : decode cX12_signToken 76 = .ok (.getfield 204, 3) := by decide +kernel
theorem dX12_signToken_79 : decode cX12_signToken 79 = .ok (.bipush 61, 2) := by decide +kernel
theorem dX12_signToken_81 : decode cX12_signToken 81 = .ok (.if_icmp .eq 13, 3) := by decide +kernel
theorem dX12_signToken_84 : decode cX12_signToken 84 = .ok (.iload_n 1, 1) := by decide +kernel
theorem dX12_signToken_85 : decode cX12_signToken 85 = .ok (.bipush 61, 2) := by decide +kernel
theorem dX12_signToken_87 : decode cX12_signToken 87 = .ok (.if_icmp .ne 7, 3) := by decide +kernel
theorem dX12_signToken_90 : decode cX12_signToken 90 = .ok (.iconst 1, 1) := by decide +kernel
theorem dX12_signToken_91 : decode cX12_signToken 91 = .ok (.goto 4, 3) := by decide +kernel
theorem dX12_signToken_94 : decode cX12_signToken 94 = .ok (.iconst 0, 1) := by decide +kernel
theorem dX12_signToken_95 : decode cX12_signToken 95 = .ok (.istore_n 2, 1) := by decide +kernel
theorem dX12_signToken_96 : decode cX12_signToken 96 = .ok (.aload_n 0, 1) := by decide +kernel
theorem dX12_signToken_97 : decode cX12_signToken 97 = .ok (.getfield 204, 3) := by decide +kernel
theorem dX12_signToken_100 : decode cX12_signToken 100 = .ok (.bipush 60, 2) := by decide +kernel
theorem dX12_signToken_102 : decode cX12_signToken 102 = .ok (.if_icmp .ne 13, 3) := by decide +kernel
theorem dX12_signToken_105 : decode cX12_signToken 105 = .ok (.iload_n 1, 1) := by decide +kernel
theorem dX12_signToken_106 : decode cX12_signToken 106 = .ok (.bipush 62, 2) := by decide +kernel
theorem dX12_signToken_108 : decode cX12_signToken 108 = .ok (.if_icmp .ne 7, 3) := by decide +kernel
theorem dX12_signToken_111 : decode cX12_signToken 111 = .ok (.iconst 1, 1) := by decide +kernel
theorem dX12_signToken_112 : decode cX12_signToken 112 = .ok (.goto 4, 3) := by decide +kernel
theorem dX12_signToken_115 : decode cX12_signToken 115 = .ok (.iconst 0, 1) := by decide +kernel
theorem dX12_signToken_116 : decode cX12_signToken 116 = .ok (.istore_n 3, 1) := by decide +kernel
theorem dX12_signToken_117 : decode cX12_signToken 117 = .ok (.iload_n 2, 1) := by decide +kernel
theorem dX12_signToken_118 : decode cX12_signToken 118 = .ok (.ifCond .ne 7, 3) := by decide +kernel
theorem dX12_signToken_121 : decode cX12_signToken 121 = .ok (.iload_n 3, 1) := by decide +kernel
theorem dX12_signToken_122 : decode cX12_signToken 122 = .ok (.ifCond .eq 13, 3) := by decide +kernel
theorem dX12_signToken_125 : decode cX12_signToken 125 = .ok (.aload_n 0, 1) := by decide +kernel
theorem dX12_signToken_126 : decode cX12_signToken 126 = .ok (.dup, 1) := by decide +kernel
theorem dX12_signToken_127 : decode cX12_signToken 127 = .ok (.getfield 190, 3) := by decide +kernel
theorem dX12_signToken_130 : decode cX12_signToken 130 = .ok (.iconst 1, 1) := by decide +kernel
theorem dX12_signToken_131 : decode cX12_signToken 131 = .ok (.iadd, 1) := by decide +kernel
theorem dX12_signToken_132 : decode cX12_signToken 132 = .ok (.putfield 190, 3) := by decide +kernel
theorem dX12_signToken_135 : decode cX12_signToken 135 = .ok (.aload_n 0, 1) := by decide +kernel
theorem dX12_signToken_136 : decode cX12_signToken 136 = .ok (.iconst 5, 1) := by decide +kernel
theorem dX12_signToken_137 : decode cX12_signToken 137 = .ok (.putfield 193, 3) := by decide +kernel
theorem dX12_signToken_140 : decode cX12_signToken 140 = .ok (.aload_n 0, 1) := by decide +kernel
theorem dX12_signToken_141 : decode cX12_signToken 141 = .ok (.aload_n 0, 1) := by decide +kernel
theorem dX12_signToken_142 : decode cX12_signToken 142 = .ok (.getfield 204, 3) := by decide +kernel
theorem dX12_signToken_145 : decode cX12_signToken 145 = .ok (.bipush 61, 2) := by decide +kernel
theorem dX12_signToken_147 : decode cX12_signToken 147 = .ok (.if_icmp .ne 7, 3) := by decide +kernel
theorem dX12_signToken_150 : decode cX12_signToken 150 = .ok (.iconst 2, 1) := by decide +kernel
theorem dX12_signToken_151 : decode cX12_signToken 151 = .ok (.goto 41, 3) := by decide +kernel
theorem dX12_signToken_154 : decode cX12_signToken 154 = .ok (.aload_n 0, 1) := by decide +kernel
theorem dX12_signToken_155 : decode cX12_signToken 155 = .ok (.getfield 204, 3) := by decide +kernel
theorem dX12_signToken_158 : decode cX12_signToken 158 = .ok (.bipush 60, 2) := by decide +kernel
theorem dX12_signToken_160 : decode cX12_signToken 160 = .ok (.if_icmp .ne 23, 3) := by decide +kernel
theorem dX12_signToken_163 : decode cX12_signToken 163 = .ok (.iload_n 2, 1) := by decide +kernel
theorem dX12_signToken_164 : decode cX12_signToken 164 = .ok (.ifCond .eq 7, 3) := by decide +kernel
theorem dX12_signToken_167 : decode cX12_signToken 167 = .ok (.iconst 1, 1) := by decide +kernel
theorem dX12_signToken_168 : decode cX12_signToken 168 = .ok (.goto 24, 3) := by decide +kernel
theorem dX12_signToken_171 : decode cX12_signToken 171 = .ok (.iload_n 3, 1) := by decide +kernel
theorem dX12_signToken_172 : decode cX12_signToken 172 = .ok (.ifCond .eq 7, 3) := by decide +kernel
theorem dX12_signToken_175 : decode cX12_signToken 175 = .ok (.iconst 3, 1) := by decide +kernel
theorem dX12_signToken_176 : decode cX12_signToken 176 = .ok (.goto 16, 3) := by decide +kernel
theorem dX12_signToken_179 : decode cX12_signToken 179 = .ok (.iconst 0, 1) := by decide +kernel
theorem dX12_signToken_180 : decode cX12_signToken 180 = .ok (.goto 12, 3) := by decide +kernel
theorem dX12_signToken_183 : decode cX12_signToken 183 = .ok (.iload_n 2, 1) := by decide +kernel
theorem dX12_signToken_184 : decode cX12_signToken 184 = .ok (.ifCond .eq 7, 3) := by decide +kernel
theorem dX12_signToken_187 : decode cX12_signToken 187 = .ok (.iconst 4, 1) := by decide +kernel
theorem dX12_signToken_188 : decode cX12_signToken 188 = .ok (.goto 4, 3) := by decide +kernel
theorem dX12_signToken_191 : decode cX12_signToken 191 = .ok (.iconst 5, 1) := by decide +kernel
theorem dX12_signToken_192 : decode cX12_signToken 192 = .ok (.putfield 204, 3) := by decide +kernel
theorem dX12_signToken_195 : decode cX12_signToken 195 = .ok (.goto 95, 3) := by decide +kernel
theorem dX12_signToken_198 : decode cX12_signToken 198 = .ok (.aload_n 0, 1) := by decide +kernel
theorem dX12_signToken_199 : decode cX12_signToken 199 = .ok (.getfield 204, 3) := by decide +kernel
theorem dX12_signToken_202 : decode cX12_signToken 202 = .ok (.bipush 59, 2) := by decide +kernel
theorem dX12_signToken_204 : decode cX12_signToken 204 = .ok (.if_icmp .eq 66, 3) := by decide +kernel
theorem dX12_signToken_207 : decode cX12_signToken 207 = .ok (.aload_n 0, 1) := by decide +kernel
theorem dX12_signToken_208 : decode cX12_signToken 208 = .ok (.getfield 204, 3) := by decide +kernel
theorem dX12_signToken_211 : decode cX12_signToken 211 = .ok (.bipush 40, 2) := by decide +kernel
theorem dX12_signToken_213 : decode cX12_signToken 213 = .ok (.if_icmp .eq 57, 3) := by decide +kernel
theorem dX12_signToken_216 : decode cX12_signToken 216 = .ok (.aload_n 0, 1) := by decide +kernel
theorem dX12_signToken_217 : decode cX12_signToken 217 = .ok (.getfield 204, 3) := by decide +kernel
theorem dX12_signToken_220 : decode cX12_signToken 220 = .ok (.bipush 41, 2) := by decide +kernel
theorem dX12_signToken_222 : decode cX12_signToken 222 = .ok (.if_icmp .eq 48, 3) := by decide +kernel
theorem dX12_signToken_225 : decode cX12_signToken 225 = .ok (.aload_n 0, 1) := by decide +kernel
theorem dX12_signToken_226 : decode cX12_signToken 226 = .ok (.getfield 204, 3) := by decide +kernel
theorem dX12_signToken_229 : decode cX12_signToken 229 = .ok (.bipush 43, 2) := by decide +kernel
theorem dX12_signToken_231 : decode cX12_signToken 231 = .ok (.if_icmp .eq 39, 3) := by decide +kernel
theorem dX12_signToken_234 : decode cX12_signToken 234 = .ok (.aload_n 0, 1) := by decide +kernel
theorem dX12_signToken_235 : decode cX12_signToken 235 = .ok (.getfield 204, 3) := by decide +kernel
theorem dX12_signToken_238 : decode cX12_signToken 238 = .ok (.bipush 45, 2) := by decide +kernel
theorem dX12_signToken_240 : decode cX12_signToken 240 = .ok (.if_icmp .eq 30, 3) := by decide +kernel
theorem dX12_signToken_243 : decode cX12_signToken 243 = .ok (.aload_n 0, 1) := by decide +kernel
theorem dX12_signToken_244 : decode cX12_signToken 244 = .ok (.getfield 204, 3) := by decide +kernel
theorem dX12_signToken_247 : decode cX12_signToken 247 = .ok (.bipush 42, 2) := by decide +kernel
theorem dX12_signToken_249 : decode cX12_signToken 249 = .ok (.if_icmp .eq 21, 3) := by decide +kernel
theorem dX12_signToken_252 : decode cX12_signToken 252 = .ok (.aload_n 0, 1) := by decide +kernel
theorem dX12_signToken_253 : decode cX12_signToken 253 = .ok (.getfield 204, 3) := by decide +kernel
theorem dX12_signToken_256 : decode cX12_signToken 256 = .ok (.bipush 47, 2) := by decide +kernel
theorem dX12_signToken_258 : decode cX12_signToken 258 = .ok (.if_icmp .eq 12, 3) := by decide +kernel
theorem dX12_signToken_261 : decode cX12_signToken 261 = .ok (.aload_n 0, 1) := by decide +kernel
theorem dX12_signToken_262 : decode cX12_signToken 262 = .ok (.getfield 204, 3) := by decide +kernel
theorem dX12_signToken_265 : decode cX12_signToken 265 = .ok (.bipush 37, 2) := by decide +kernel
theorem dX12_signToken_267 : decode cX12_signToken 267 = .ok (.if_icmp .ne 7, 3) := by decide +kernel
theorem dX12_signToken_270 : decode cX12_signToken 270 = .ok (.iconst 1, 1) := by decide +kernel
theorem dX12_signToken_271 : decode cX12_signToken 271 = .ok (.goto 4, 3) := by decide +kernel
theorem dX12_signToken_274 : decode cX12_signToken 274 = .ok (.iconst 0, 1) := by decide +kernel
theorem dX12_signToken_275 : decode cX12_signToken 275 = .ok (.istore_n 1, 1) := by decide +kernel
theorem dX12_signToken_276 : decode cX12_signToken 276 = .ok (.aload_n 0, 1) := by decide +kernel
theorem dX12_signToken_277 : decode cX12_signToken 277 = .ok (.iload_n 1, 1) := by decide +kernel
theorem dX12_signToken_278 : decode cX12_signToken 278 = .ok (.ifCond .eq 7, 3) := by decide +kernel
theorem dX12_signToken_281 : decode cX12_signToken 281 = .ok (.iconst 4, 1) := by decide +kernel
theorem dX12_signToken_282 : decode cX12_signToken 282 = .ok (.goto 5, 3) := by decide +kernel
theorem dX12_signToken_285 : decode cX12_signToken 285 = .ok (.bipush 6, 2) := by decide +kernel
theorem dX12_signToken_287 : decode cX12_signToken 287 = .ok (.putfield 193, 3) := by decide +kernel
theorem dX12_signToken_290 : decode cX12_signToken 290 = .ok (.return_, 1) := by decide +kernel
theorem dX12_packed_0 : decode cX12_packed 0 = .ok (.iconst 0, 1) := by decide +kernel
theorem dX12_packed_1 : decode cX12_packed 1 = .ok (.istore_n 3, 1) := by decide +kernel
theorem dX12_packed_2 : decode cX12_packed 2 = .ok (.iload_n 1, 1) := by decide +kernel
theorem dX12_packed_3 : decode cX12_packed 3 = .ok (.istore 4, 2) := by decide +kernel
theorem dX12_packed_5 : decode cX12_packed 5 = .ok (.iload 4, 2) := by decide +kernel
theorem dX12_packed_7 : decode cX12_packed 7 = .ok (.iload_n 1, 1) := by decide +kernel
theorem dX12_packed_8 : decode cX12_packed 8 = .ok (.bipush 6, 2) := by decide +kernel
theorem dX12_packed_10 : decode cX12_packed 10 = .ok (.iadd, 1) := by decide +kernel
theorem dX12_packed_11 : decode cX12_packed 11 = .ok (.if_icmp .ge 34, 3) := by decide +kernel
theorem dX12_packed_14 : decode cX12_packed 14 = .ok (.iload_n 3, 1) := by decide +kernel
theorem dX12_packed_15 : decode cX12_packed 15 = .ok (.iconst 5, 1) := by decide +kernel
theorem dX12_packed_16 : decode cX12_packed 16 = .ok (.ishl, 1) := by decide +kernel
theorem dX12_packed_17 : decode cX12_packed 17 = .ok (.iload 4, 2) := by decide +kernel
theorem dX12_packed_19 : decode cX12_packed 19 = .ok (.iload_n 2, 1) := by decide +kernel
theorem dX12_packed_20 : decode cX12_packed 20 = .ok (.if_icmp .ge 16, 3) := by decide +kernel
theorem dX12_packed_23 : decode cX12_packed 23 = .ok (.aload_n 0, 1) := by decide +kernel
theorem dX12_packed_24 : decode cX12_packed 24 = .ok (.getfield 7, 3) := by decide +kernel
theorem dX12_packed_27 : decode cX12_packed 27 = .ok (.iload 4, 2) := by decide +kernel
theorem dX12_packed_29 : decode cX12_packed 29 = .ok (.iaload, 1) := by decide +kernel
theorem dX12_packed_30 : decode cX12_packed 30 = .ok (.bipush 96, 2) := by decide +kernel
theorem dX12_packed_32 : decode cX12_packed 32 = .ok (.isub, 1) := by decide +kernel
theorem dX12_packed_33 : decode cX12_packed 33 = .ok (.goto 4, 3) := by decide +kernel
theorem dX12_packed_36 : decode cX12_packed 36 = .ok (.iconst 0, 1) := by decide +kernel
theorem dX12_packed_37 : decode cX12_packed 37 = .ok (.ior, 1) := by decide +kernel
theorem dX12_packed_38 : decode cX12_packed 38 = .ok (.istore_n 3, 1) := by decide +kernel
theorem dX12_packed_39 : decode cX12_packed 39 = .ok (.iinc 4 1, 3) := by decide +kernel
theorem dX12_packed_42 : decode cX12_packed 42 = .ok (.goto (-37), 3) := by decide +kernel
theorem dX12_packed_45 : decode cX12_packed 45 = .ok (.iload_n 3, 1) := by decide +kernel
theorem dX12_packed_46 : decode cX12_packed 46 = .ok (.ireturn, 1) := by decide +kernel
theorem dX12_isKey_0 : decode cX12_isKey 0 = .ok (.aload_n 0, 1) := by decide +kernel
theorem dX12_isKey_1 : decode cX12_isKey 1 = .ok (.getfield 193, 3) := by decide +kernel
theorem dX12_isKey_4 : decode cX12_isKey 4 = .ok (.iconst 1, 1) := by decide +kernel
theorem dX12_isKey_5 : decode cX12_isKey 5 = .ok (.if_icmp .ne 15, 3) := by decide +kernel
theorem dX12_isKey_8 : decode cX12_isKey 8 = .ok (.aload_n 0, 1) := by decide +kernel
theorem dX12_isKey_9 : decode cX12_isKey 9 = .ok (.getfield 204, 3) := by decide +kernel
theorem dX12_isKey_12 : decode cX12_isKey 12 = .ok (.iload_n 1, 1) := by decide +kernel
theorem dX12_isKey_13 : decode cX12_isKey 13 = .ok (.if_icmp .ne 7, 3) := by decide +kernel
theorem dX12_isKey_16 : decode cX12_isKey 16 = .ok (.iconst 1, 1) := by decide +kernel
theorem dX12_isKey_17 : decode cX12_isKey 17 = .ok (.goto 4, 3) := by decide +kernel
theorem dX12_isKey_20 : decode cX12_isKey 20 = .ok (.iconst 0, 1) := by decide +kernel
theorem dX12_isKey_21 : decode cX12_isKey 21 = .ok (.ireturn, 1) := by decide +kernel
theorem dX12_isSign_0 : decode cX12_isSign 0 = .ok (.aload_n 0, 1) := by decide +kernel
theorem dX12_isSign_1 : decode cX12_isSign 1 = .ok (.getfield 193, 3) := by decide +kernel
theorem dX12_isSign_4 : decode cX12_isSign 4 = .ok (.iconst 4, 1) := by decide +kernel
theorem dX12_isSign_5 : decode cX12_isSign 5 = .ok (.if_icmp .ne 15, 3) := by decide +kernel
theorem dX12_isSign_8 : decode cX12_isSign 8 = .ok (.aload_n 0, 1) := by decide +kernel
theorem dX12_isSign_9 : decode cX12_isSign 9 = .ok (.getfield 204, 3) := by decide +kernel
theorem dX12_isSign_12 : decode cX12_isSign 12 = .ok (.iload_n 1, 1) := by decide +kernel
theorem dX12_isSign_13 : decode cX12_isSign 13 = .ok (.if_icmp .ne 7, 3) := by decide +kernel
theorem dX12_isSign_16 : decode cX12_isSign 16 = .ok (.iconst 1, 1) := by decide +kernel
theorem dX12_isSign_17 : decode cX12_isSign 17 = .ok (.goto 4, 3) := by decide +kernel
theorem dX12_isSign_20 : decode cX12_isSign 20 = .ok (.iconst 0, 1) := by decide +kernel
theorem dX12_isSign_21 : decode cX12_isSign 21 = .ok (.ireturn, 1) := by decide +kernel
theorem dX12_number_0 : decode cX12_number 0 = .ok (.aload_n 0, 1) := by decide +kernel
theorem dX12_number_1 : decode cX12_number 1 = .ok (.getfield 193, 3) := by decide +kernel
theorem dX12_number_4 : decode cX12_number 4 = .ok (.iconst 3, 1) := by decide +kernel
theorem dX12_number_5 : decode cX12_number 5 = .ok (.if_icmp .eq 9, 3) := by decide +kernel
theorem dX12_number_8 : decode cX12_number 8 = .ok (.aload_n 0, 1) := by decide +kernel
theorem dX12_number_9 : decode cX12_number 9 = .ok (.iconst 1, 1) := by decide +kernel
theorem dX12_number_10 : decode cX12_number 10 = .ok (.invokevirtual 217, 3) := by decide +kernel
theorem dX12_number_13 : decode cX12_number 13 = .ok (.ireturn, 1) := by decide +kernel
theorem dX12_number_14 : decode cX12_number 14 = .ok (.aload_n 0, 1) := by decide +kernel
theorem dX12_number_15 : decode cX12_number 15 = .ok (.getfield 204, 3) := by decide +kernel
theorem dX12_number_18 : decode cX12_number 18 = .ok (.iload_n 1, 1) := by decide +kernel
theorem dX12_number_19 : decode cX12_number 19 = .ok (.iload_n 2, 1) := by decide +kernel
theorem dX12_number_20 : decode cX12_number 20 = .ok (.invokestatic 220, 3) := by decide +kernel
theorem dX12_number_23 : decode cX12_number 23 = .ok (.ifCond .ne 9, 3) := by decide +kernel
theorem dX12_number_26 : decode cX12_number 26 = .ok (.aload_n 0, 1) := by decide +kernel
theorem dX12_number_27 : decode cX12_number 27 = .ok (.iconst 2, 1) := by decide +kernel
theorem dX12_number_28 : decode cX12_number 28 = .ok (.invokevirtual 217, 3) := by decide +kernel
theorem dX12_number_31 : decode cX12_number 31 = .ok (.ireturn, 1) := by decide +kernel
theorem dX12_number_32 : decode cX12_number 32 = .ok (.aload_n 0, 1) := by decide +kernel
theorem dX12_number_33 : decode cX12_number 33 = .ok (.aload_n 0, 1) := by decide +kernel
theorem dX12_number_34 : decode cX12_number 34 = .ok (.getfield 204, 3) := by decide +kernel
theorem dX12_number_37 : decode cX12_number 37 = .ok (.putfield 224, 3) := by decide +kernel
theorem dX12_number_40 : decode cX12_number 40 = .ok (.aload_n 0, 1) := by decide +kernel
theorem dX12_number_41 : decode cX12_number 41 = .ok (.invokevirtual 227, 3) := by decide +kernel
theorem dX12_number_44 : decode cX12_number 44 = .ok (.iconst 1, 1) := by decide +kernel
theorem dX12_number_45 : decode cX12_number 45 = .ok (.ireturn, 1) := by decide +kernel
theorem dX12_plain_0 : decode cX12_plain 0 = .ok (.aload_n 0, 1) := by decide +kernel
theorem dX12_plain_1 : decode cX12_plain 1 = .ok (.iconst 0, 1) := by decide +kernel
theorem dX12_plain_2 : decode cX12_plain 2 = .ok (.putfield 237, 3) := by decide +kernel
theorem dX12_plain_5 : decode cX12_plain 5 = .ok (.aload_n 0, 1) := by decide +kernel
theorem dX12_plain_6 : decode cX12_plain 6 = .ok (.iconst 0, 1) := by decide +kernel
theorem dX12_plain_7 : decode cX12_plain 7 = .ok (.putfield 240, 3) := by decide +kernel
theorem dX12_plain_10 : decode cX12_plain 10 = .ok (.aload_n 0, 1) := by decide +kernel
theorem dX12_plain_11 : decode cX12_plain 11 = .ok (.iconst 0, 1) := by decide +kernel
theorem dX12_plain_12 : decode cX12_plain 12 = .ok (.putfield 243, 3) := by decide +kernel
theorem dX12_plain_15 : decode cX12_plain 15 = .ok (.aload_n 0, 1) := by decide +kernel
theorem dX12_plain_16 : decode cX12_plain 16 = .ok (.iconst 0, 1) := by decide +kernel
theorem dX12_plain_17 : decode cX12_plain 17 = .ok (.putfield 246, 3) := by decide +kernel
theorem dX12_plain_20 : decode cX12_plain 20 = .ok (.aload_n 0, 1) := by decide +kernel
theorem dX12_plain_21 : decode cX12_plain 21 = .ok (.iconst 0, 1) := by decide +kernel
theorem dX12_plain_22 : decode cX12_plain 22 = .ok (.putfield 249, 3) := by decide +kernel
theorem dX12_plain_25 : decode cX12_plain 25 = .ok (.aload_n 0, 1) := by decide +kernel
theorem dX12_plain_26 : decode cX12_plain 26 = .ok (.iconst 0, 1) := by decide +kernel
theorem dX12_plain_27 : decode cX12_plain 27 = .ok (.putfield 252, 3) := by decide +kernel
theorem dX12_plain_30 : decode cX12_plain 30 = .ok (.aload_n 0, 1) := by decide +kernel
theorem dX12_plain_31 : decode cX12_plain 31 = .ok (.iconst 0, 1) := by decide +kernel
theorem dX12_plain_32 : decode cX12_plain 32 = .ok (.putfield 255, 3) := by decide +kernel
theorem dX12_plain_35 : decode cX12_plain 35 = .ok (.iconst 0, 1) := by decide +kernel
theorem dX12_plain_36 : decode cX12_plain 36 = .ok (.istore_n 1, 1) := by decide +kernel
theorem dX12_plain_37 : decode cX12_plain 37 = .ok (.iload_n 1, 1) := by decide +kernel
theorem dX12_plain_38 : decode cX12_plain 38 = .ok (.iconst 2, 1) := by decide +kernel
theorem dX12_plain_39 : decode cX12_plain 39 = .ok (.if_icmp .ge 25, 3) := by decide +kernel
theorem dX12_plain_42 : decode cX12_plain 42 = .ok (.aload_n 0, 1) := by decide +kernel
theorem dX12_plain_43 : decode cX12_plain 43 = .ok (.getfield 20, 3) := by decide +kernel
theorem dX12_plain_46 : decode cX12_plain 46 = .ok (.iload_n 1, 1) := by decide +kernel
theorem dX12_plain_47 : decode cX12_plain 47 = .ok (.iconst 0, 1) := by decide +kernel
theorem dX12_plain_48 : decode cX12_plain 48 = .ok (.bastore, 1) := by decide +kernel
theorem dX12_plain_49 : decode cX12_plain 49 = .ok (.aload_n 0, 1) := by decide +kernel
theorem dX12_plain_50 : decode cX12_plain 50 = .ok (.getfield 24, 3) := by decide +kernel
theorem dX12_plain_53 : decode cX12_plain 53 = .ok (.iconst 2, 1) := by decide +kernel
theorem dX12_plain_54 : decode cX12_plain 54 = .ok (.iload_n 1, 1) := by decide +kernel
theorem dX12_plain_55 : decode cX12_plain 55 = .ok (.iadd, 1) := by decide +kernel
theorem dX12_plain_56 : decode cX12_plain 56 = .ok (.iconst 0, 1) := by decide +kernel
theorem dX12_plain_57 : decode cX12_plain 57 = .ok (.iastore, 1) := by decide +kernel
theorem dX12_plain_58 : decode cX12_plain 58 = .ok (.iinc 1 1, 3) := by decide +kernel
theorem dX12_plain_61 : decode cX12_plain 61 = .ok (.goto (-24), 3) := by decide +kernel
theorem dX12_plain_64 : decode cX12_plain 64 = .ok (.iconst 3, 1) := by decide +kernel
theorem dX12_plain_65 : decode cX12_plain 65 = .ok (.istore_n 1, 1) := by decide +kernel
theorem dX12_plain_66 : decode cX12_plain 66 = .ok (.iload_n 1, 1) := by decide +kernel
theorem dX12_plain_67 : decode cX12_plain 67 = .ok (.bipush 6, 2) := by decide +kernel
theorem dX12_plain_69 : decode cX12_plain 69 = .ok (.if_icmp .ge 16, 3) := by decide +kernel
theorem dX12_plain_72 : decode cX12_plain 72 = .ok (.aload_n 0, 1) := by decide +kernel
theorem dX12_plain_73 : decode cX12_plain 73 = .ok (.getfield 75, 3) := by decide +kernel
theorem dX12_plain_76 : decode cX12_plain 76 = .ok (.iload_n 1, 1) := by decide +kernel
theorem dX12_plain_77 : decode cX12_plain 77 = .ok (.iconst 0, 1) := by decide +kernel
theorem dX12_plain_78 : decode cX12_plain 78 = .ok (.bastore, 1) := by decide +kernel
theorem dX12_plain_79 : decode cX12_plain 79 = .ok (.iinc 1 1, 3) := by decide +kernel
theorem dX12_plain_82 : decode cX12_plain 82 = .ok (.goto (-16), 3) := by decide +kernel
theorem dX12_plain_85 : decode cX12_plain 85 = .ok (.return_, 1) := by decide +kernel
theorem dX12_copies_0 : decode cX12_copies 0 = .ok (.iconst 0, 1) := by decide +kernel
theorem dX12_copies_1 : decode cX12_copies 1 = .ok (.istore_n 2, 1) := by decide +kernel
theorem dX12_copies_2 : decode cX12_copies 2 = .ok (.iload_n 2, 1) := by decide +kernel
theorem dX12_copies_3 : decode cX12_copies 3 = .ok (.iload_n 1, 1) := by decide +kernel
theorem dX12_copies_4 : decode cX12_copies 4 = .ok (.if_icmp .ge 17, 3) := by decide +kernel
theorem dX12_copies_7 : decode cX12_copies 7 = .ok (.aload_n 0, 1) := by decide +kernel
theorem dX12_copies_8 : decode cX12_copies 8 = .ok (.iload_n 2, 1) := by decide +kernel
theorem dX12_copies_9 : decode cX12_copies 9 = .ok (.aload_n 0, 1) := by decide +kernel
theorem dX12_copies_10 : decode cX12_copies 10 = .ok (.iload_n 1, 1) := by decide +kernel
theorem dX12_copies_11 : decode cX12_copies 11 = .ok (.iload_n 2, 1) := by decide +kernel
theorem dX12_copies_12 : decode cX12_copies 12 = .ok (.iadd, 1) := by decide +kernel
theorem dX12_copies_13 : decode cX12_copies 13 = .ok (.iaload, 1) := by decide +kernel
theorem dX12_copies_14 : decode cX12_copies 14 = .ok (.iastore, 1) := by decide +kernel
theorem dX12_copies_15 : decode cX12_copies 15 = .ok (.iinc 2 1, 3) := by decide +kernel
theorem dX12_copies_18 : decode cX12_copies 18 = .ok (.goto (-16), 3) := by decide +kernel
theorem dX12_copies_21 : decode cX12_copies 21 = .ok (.return_, 1) := by decide +kernel
theorem dX12_keepText_0 : decode cX12_keepText 0 = .ok (.aload_n 0, 1) := by decide +kernel
theorem dX12_keepText_1 : decode cX12_keepText 1 = .ok (.aload_n 0, 1) := by decide +kernel
theorem dX12_keepText_2 : decode cX12_keepText 2 = .ok (.getfield 237, 3) := by decide +kernel
theorem dX12_keepText_5 : decode cX12_keepText 5 = .ok (.putfield 258, 3) := by decide +kernel
theorem dX12_keepText_8 : decode cX12_keepText 8 = .ok (.aload_n 0, 1) := by decide +kernel
theorem dX12_keepText_9 : decode cX12_keepText 9 = .ok (.aload_n 0, 1) := by decide +kernel
theorem dX12_keepText_10 : decode cX12_keepText 10 = .ok (.getfield 240, 3) := by decide +kernel
theorem dX12_keepText_13 : decode cX12_keepText 13 = .ok (.putfield 261, 3) := by decide +kernel
theorem dX12_keepText_16 : decode cX12_keepText 16 = .ok (.aload_n 0, 1) := by decide +kernel
theorem dX12_keepText_17 : decode cX12_keepText 17 = .ok (.aload_n 0, 1) := by decide +kernel
theorem dX12_keepText_18 : decode cX12_keepText 18 = .ok (.getfield 243, 3) := by decide +kernel
theorem dX12_keepText_21 : decode cX12_keepText 21 = .ok (.putfield 264, 3) := by decide +kernel
theorem dX12_keepText_24 : decode cX12_keepText 24 = .ok (.aload_n 0, 1) := by decide +kernel
theorem dX12_keepText_25 : decode cX12_keepText 25 = .ok (.aload_n 0, 1) := by decide +kernel
theorem dX12_keepText_26 : decode cX12_keepText 26 = .ok (.getfield 246, 3) := by decide +kernel
theorem dX12_keepText_29 : decode cX12_keepText 29 = .ok (.putfield 267, 3) := by decide +kernel
theorem dX12_keepText_32 : decode cX12_keepText 32 = .ok (.aload_n 0, 1) := by decide +kernel
theorem dX12_keepText_33 : decode cX12_keepText 33 = .ok (.aload_n 0, 1) := by decide +kernel
theorem dX12_keepText_34 : decode cX12_keepText 34 = .ok (.getfield 249, 3) := by decide +kernel
theorem dX12_keepText_37 : decode cX12_keepText 37 = .ok (.putfield 270, 3) := by decide +kernel
theorem dX12_keepText_40 : decode cX12_keepText 40 = .ok (.aload_n 0, 1) := by decide +kernel
theorem dX12_keepText_41 : decode cX12_keepText 41 = .ok (.aload_n 0, 1) := by decide +kernel
theorem dX12_keepText_42 : decode cX12_keepText 42 = .ok (.getfield 252, 3) := by decide +kernel
theorem dX12_keepText_45 : decode cX12_keepText 45 = .ok (.putfield 273, 3) := by decide +kernel
theorem dX12_keepText_48 : decode cX12_keepText 48 = .ok (.aload_n 0, 1) := by decide +kernel
theorem dX12_keepText_49 : decode cX12_keepText 49 = .ok (.getfield 24, 3) := by decide +kernel
theorem dX12_keepText_52 : decode cX12_keepText 52 = .ok (.iconst 2, 1) := by decide +kernel
theorem dX12_keepText_53 : decode cX12_keepText 53 = .ok (.invokestatic 276, 3) := by decide +kernel
theorem dX12_keepText_56 : decode cX12_keepText 56 = .ok (.aload_n 0, 1) := by decide +kernel
theorem dX12_keepText_57 : decode cX12_keepText 57 = .ok (.getfield 27, 3) := by decide +kernel
theorem dX12_keepText_60 : decode cX12_keepText 60 = .ok (.bipush 6, 2) := by decide +kernel
theorem dX12_keepText_62 : decode cX12_keepText 62 = .ok (.invokestatic 276, 3) := by decide +kernel
theorem dX12_keepText_65 : decode cX12_keepText 65 = .ok (.aload_n 0, 1) := by decide +kernel
theorem dX12_keepText_66 : decode cX12_keepText 66 = .ok (.getfield 30, 3) := by decide +kernel
theorem dX12_keepText_69 : decode cX12_keepText 69 = .ok (.bipush 6, 2) := by decide +kernel
theorem dX12_keepText_71 : decode cX12_keepText 71 = .ok (.invokestatic 276, 3) := by decide +kernel
theorem dX12_keepText_74 : decode cX12_keepText 74 = .ok (.aload_n 0, 1) := by decide +kernel
theorem dX12_keepText_75 : decode cX12_keepText 75 = .ok (.getfield 33, 3) := by decide +kernel
theorem dX12_keepText_78 : decode cX12_keepText 78 = .ok (.bipush 8, 2) := by decide +kernel
theorem dX12_keepText_80 : decode cX12_keepText 80 = .ok (.invokestatic 276, 3) := by decide +kernel
theorem dX12_keepText_83 : decode cX12_keepText 83 = .ok (.aload_n 0, 1) := by decide +kernel
theorem dX12_keepText_84 : decode cX12_keepText 84 = .ok (.getfield 36, 3) := by decide +kernel
theorem dX12_keepText_87 : decode cX12_keepText 87 = .ok (.bipush 8, 2) := by decide +kernel
theorem dX12_keepText_89 : decode cX12_keepText 89 = .ok (.invokestatic 276, 3) := by decide +kernel
theorem dX12_keepText_92 : decode cX12_keepText 92 = .ok (.aload_n 0, 1) := by decide +kernel
theorem dX12_keepText_93 : decode cX12_keepText 93 = .ok (.getfield 39, 3) := by decide +kernel
theorem dX12_keepText_96 : decode cX12_keepText 96 = .ok (.bipush 8, 2) := by decide +kernel
theorem dX12_keepText_98 : decode cX12_keepText 98 = .ok (.invokestatic 276, 3) := by decide +kernel
theorem dX12_keepText_101 : decode cX12_keepText 101 = .ok (.aload_n 0, 1) := by decide +kernel
theorem dX12_keepText_102 : decode cX12_keepText 102 = .ok (.getfield 42, 3) := by decide +kernel
theorem dX12_keepText_105 : decode cX12_keepText 105 = .ok (.bipush 8, 2) := by decide +kernel
theorem dX12_keepText_107 : decode cX12_keepText 107 = .ok (.invokestatic 276, 3) := by decide +kernel
theorem dX12_keepText_110 : decode cX12_keepText 110 = .ok (.aload_n 0, 1) := by decide +kernel
theorem dX12_keepText_111 : decode cX12_keepText 111 = .ok (.getfield 45, 3) := by decide +kernel
theorem dX12_keepText_114 : decode cX12_keepText 114 = .ok (.bipush 8, 2) := by decide +kernel
theorem dX12_keepText_116 : decode cX12_keepText 116 = .ok (.invokestatic 276, 3) := by decide +kernel
theorem dX12_keepText_119 : decode cX12_keepText 119 = .ok (.aload_n 0, 1) := by decide +kernel
theorem dX12_keepText_120 : decode cX12_keepText 120 = .ok (.getfield 48, 3) := by decide +kernel
theorem dX12_keepText_123 : decode cX12_keepText 123 = .ok (.bipush 14, 2) := by decide +kernel
theorem dX12_keepText_125 : decode cX12_keepText 125 = .ok (.invokestatic 276, 3) := by decide +kernel
theorem dX12_keepText_128 : decode cX12_keepText 128 = .ok (.aload_n 0, 1) := by decide +kernel
theorem dX12_keepText_129 : decode cX12_keepText 129 = .ok (.getfield 51, 3) := by decide +kernel
theorem dX12_keepText_132 : decode cX12_keepText 132 = .ok (.bipush 14, 2) := by decide +kernel
theorem dX12_keepText_134 : decode cX12_keepText 134 = .ok (.invokestatic 276, 3) := by decide +kernel
theorem dX12_keepText_137 : decode cX12_keepText 137 = .ok (.aload_n 0, 1) := by decide +kernel
theorem dX12_keepText_138 : decode cX12_keepText 138 = .ok (.getfield 54, 3) := by decide +kernel
theorem dX12_keepText_141 : decode cX12_keepText 141 = .ok (.bipush 14, 2) := by decide +kernel
theorem dX12_keepText_143 : decode cX12_keepText 143 = .ok (.invokestatic 276, 3) := by decide +kernel
theorem dX12_keepText_146 : decode cX12_keepText 146 = .ok (.aload_n 0, 1) := by decide +kernel
theorem dX12_keepText_147 : decode cX12_keepText 147 = .ok (.getfield 57, 3) := by decide +kernel
theorem dX12_keepText_150 : decode cX12_keepText 150 = .ok (.bipush 14, 2) := by decide +kernel
theorem dX12_keepText_152 : decode cX12_keepText 152 = .ok (.invokestatic 276, 3) := by decide +kernel
theorem dX12_keepText_155 : decode cX12_keepText 155 = .ok (.aload_n 0, 1) := by decide +kernel
theorem dX12_keepText_156 : decode cX12_keepText 156 = .ok (.getfield 60, 3) := by decide +kernel
theorem dX12_keepText_159 : decode cX12_keepText 159 = .ok (.bipush 14, 2) := by decide +kernel
theorem dX12_keepText_161 : decode cX12_keepText 161 = .ok (.invokestatic 276, 3) := by decide +kernel
theorem dX12_keepText_164 : decode cX12_keepText 164 = .ok (.aload_n 0, 1) := by decide +kernel
theorem dX12_keepText_165 : decode cX12_keepText 165 = .ok (.getfield 63, 3) := by decide +kernel
theorem dX12_keepText_168 : decode cX12_keepText 168 = .ok (.bipush 6, 2) := by decide +kernel
theorem dX12_keepText_170 : decode cX12_keepText 170 = .ok (.invokestatic 276, 3) := by decide +kernel
theorem dX12_keepText_173 : decode cX12_keepText 173 = .ok (.aload_n 0, 1) := by decide +kernel
theorem dX12_keepText_174 : decode cX12_keepText 174 = .ok (.getfield 66, 3) := by decide +kernel
theorem dX12_keepText_177 : decode cX12_keepText 177 = .ok (.bipush 6, 2) := by decide +kernel
theorem dX12_keepText_179 : decode cX12_keepText 179 = .ok (.invokestatic 276, 3) := by decide +kernel
theorem dX12_keepText_182 : decode cX12_keepText 182 = .ok (.aload_n 0, 1) := by decide +kernel
theorem dX12_keepText_183 : decode cX12_keepText 183 = .ok (.getfield 69, 3) := by decide +kernel
theorem dX12_keepText_186 : decode cX12_keepText 186 = .ok (.bipush 6, 2) := by decide +kernel
theorem dX12_keepText_188 : decode cX12_keepText 188 = .ok (.invokestatic 276, 3) := by decide +kernel
theorem dX12_keepText_191 : decode cX12_keepText 191 = .ok (.aload_n 0, 1) := by decide +kernel
theorem dX12_keepText_192 : decode cX12_keepText 192 = .ok (.getfield 72, 3) := by decide +kernel
theorem dX12_keepText_195 : decode cX12_keepText 195 = .ok (.iconst 4, 1) := by decide +kernel
theorem dX12_keepText_196 : decode cX12_keepText 196 = .ok (.invokestatic 276, 3) := by decide +kernel
theorem dX12_keepText_199 : decode cX12_keepText 199 = .ok (.iconst 0, 1) := by decide +kernel
theorem dX12_keepText_200 : decode cX12_keepText 200 = .ok (.istore_n 1, 1) := by decide +kernel
theorem dX12_keepText_201 : decode cX12_keepText 201 = .ok (.iload_n 1, 1) := by decide +kernel
theorem dX12_keepText_202 : decode cX12_keepText 202 = .ok (.iconst 3, 1) := by decide +kernel
theorem dX12_keepText_203 : decode cX12_keepText 203 = .ok (.if_icmp .ge 23, 3) := by decide +kernel
theorem dX12_keepText_206 : decode cX12_keepText 206 = .ok (.aload_n 0, 1) := by decide +kernel
theorem dX12_keepText_207 : decode cX12_keepText 207 = .ok (.getfield 75, 3) := by decide +kernel
theorem dX12_keepText_210 : decode cX12_keepText 210 = .ok (.iload_n 1, 1) := by decide +kernel
theorem dX12_keepText_211 : decode cX12_keepText 211 = .ok (.aload_n 0, 1) := by decide +kernel
theorem dX12_keepText_212 : decode cX12_keepText 212 = .ok (.getfield 75, 3) := by decide +kernel
theorem dX12_keepText_215 : decode cX12_keepText 215 = .ok (.iconst 3, 1) := by decide +kernel
theorem dX12_keepText_216 : decode cX12_keepText 216 = .ok (.iload_n 1, 1) := by decide +kernel
theorem dX12_keepText_217 : decode cX12_keepText 217 = .ok (.iadd, 1) := by decide +kernel
theorem dX12_keepText_218 : decode cX12_keepText 218 = .ok (.baload, 1) := by decide +kernel
theorem dX12_keepText_219 : decode cX12_keepText 219 = .ok (.bastore, 1) := by decide +kernel
theorem dX12_keepText_220 : decode cX12_keepText 220 = .ok (.iinc 1 1, 3) := by decide +kernel
theorem dX12_keepText_223 : decode cX12_keepText 223 = .ok (.goto (-22), 3) := by decide +kernel
theorem dX12_keepText_226 : decode cX12_keepText 226 = .ok (.aload_n 0, 1) := by decide +kernel
theorem dX12_keepText_227 : decode cX12_keepText 227 = .ok (.getfield 78, 3) := by decide +kernel
theorem dX12_keepText_230 : decode cX12_keepText 230 = .ok (.iconst 3, 1) := by decide +kernel
theorem dX12_keepText_231 : decode cX12_keepText 231 = .ok (.invokestatic 276, 3) := by decide +kernel
theorem dX12_keepText_234 : decode cX12_keepText 234 = .ok (.aload_n 0, 1) := by decide +kernel
theorem dX12_keepText_235 : decode cX12_keepText 235 = .ok (.getfield 81, 3) := by decide +kernel
theorem dX12_keepText_238 : decode cX12_keepText 238 = .ok (.iconst 3, 1) := by decide +kernel
theorem dX12_keepText_239 : decode cX12_keepText 239 = .ok (.invokestatic 276, 3) := by decide +kernel
theorem dX12_keepText_242 : decode cX12_keepText 242 = .ok (.aload_n 0, 1) := by decide +kernel
theorem dX12_keepText_243 : decode cX12_keepText 243 = .ok (.getfield 84, 3) := by decide +kernel
theorem dX12_keepText_246 : decode cX12_keepText 246 = .ok (.bipush 64, 2) := by decide +kernel
theorem dX12_keepText_248 : decode cX12_keepText 248 = .ok (.invokestatic 276, 3) := by decide +kernel
theorem dX12_keepText_251 : decode cX12_keepText 251 = .ok (.aload_n 0, 1) := by decide +kernel
theorem dX12_keepText_252 : decode cX12_keepText 252 = .ok (.getfield 87, 3) := by decide +kernel
theorem dX12_keepText_255 : decode cX12_keepText 255 = .ok (.bipush 64, 2) := by decide +kernel
theorem dX12_keepText_257 : decode cX12_keepText 257 = .ok (.invokestatic 276, 3) := by decide +kernel
theorem dX12_keepText_260 : decode cX12_keepText 260 = .ok (.aload_n 0, 1) := by decide +kernel
theorem dX12_keepText_261 : decode cX12_keepText 261 = .ok (.getfield 90, 3) := by decide +kernel
theorem dX12_keepText_264 : decode cX12_keepText 264 = .ok (.bipush 64, 2) := by decide +kernel
theorem dX12_keepText_266 : decode cX12_keepText 266 = .ok (.invokestatic 276, 3) := by decide +kernel
theorem dX12_keepText_269 : decode cX12_keepText 269 = .ok (.aload_n 0, 1) := by decide +kernel
theorem dX12_keepText_270 : decode cX12_keepText 270 = .ok (.invokevirtual 280, 3) := by decide +kernel
theorem dX12_keepText_273 : decode cX12_keepText 273 = .ok (.return_, 1) := by decide +kernel
theorem dX12_find_0 : decode cX12_find 0 = .ok (.iconst 0, 1) := by decide +kernel
theorem dX12_find_1 : decode cX12_find 1 = .ok (.istore 4, 2) := by decide +kernel
theorem dX12_find_3 : decode cX12_find 3 = .ok (.iload 4, 2) := by decide +kernel
theorem dX12_find_5 : decode cX12_find 5 = .ok (.iload_n 2, 1) := by decide +kernel
theorem dX12_find_6 : decode cX12_find 6 = .ok (.if_icmp .ge 22, 3) := by decide +kernel
theorem dX12_find_9 : decode cX12_find 9 = .ok (.aload_n 0, 1) := by decide +kernel
theorem dX12_find_10 : decode cX12_find 10 = .ok (.iload_n 1, 1) := by decide +kernel
theorem dX12_find_11 : decode cX12_find 11 = .ok (.iload 4, 2) := by decide +kernel
theorem dX12_find_13 : decode cX12_find 13 = .ok (.iadd, 1) := by decide +kernel
theorem dX12_find_14 : decode cX12_find 14 = .ok (.iaload, 1) := by decide +kernel
theorem dX12_find_15 : decode cX12_find 15 = .ok (.iload_n 3, 1) := by decide +kernel
theorem dX12_find_16 : decode cX12_find 16 = .ok (.if_icmp .ne 6, 3) := by decide +kernel
theorem dX12_find_19 : decode cX12_find 19 = .ok (.iload 4, 2) := by decide +kernel
theorem dX12_find_21 : decode cX12_find 21 = .ok (.ireturn, 1) := by decide +kernel
theorem dX12_find_22 : decode cX12_find 22 = .ok (.iinc 4 1, 3) := by decide +kernel
theorem dX12_find_25 : decode cX12_find 25 = .ok (.goto (-22), 3) := by decide +kernel
theorem dX12_find_28 : decode cX12_find 28 = .ok (.iconst (-1), 1) := by decide +kernel
theorem dX12_find_29 : decode cX12_find 29 = .ok (.ireturn, 1) := by decide +kernel
theorem dX12_newName_0 : decode cX12_newName 0 = .ok (.aload_n 0, 1) := by decide +kernel
theorem dX12_newName_1 : decode cX12_newName 1 = .ok (.getfield 193, 3) := by decide +kernel
theorem dX12_newName_4 : decode cX12_newName 4 = .ok (.iconst 2, 1) := by decide +kernel
theorem dX12_newName_5 : decode cX12_newName 5 = .ok (.if_icmp .eq 9, 3) := by decide +kernel
theorem dX12_newName_8 : decode cX12_newName 8 = .ok (.aload_n 0, 1) := by decide +kernel
theorem dX12_newName_9 : decode cX12_newName 9 = .ok (.iconst 1, 1) := by decide +kernel
theorem dX12_newName_10 : decode cX12_newName 10 = .ok (.invokevirtual 217, 3) := by decide +kernel
theorem dX12_newName_13 : decode cX12_newName 13 = .ok (.ireturn, 1) := by decide +kernel
theorem dX12_newName_14 : decode cX12_newName 14 = .ok (.aload_n 1, 1) := by decide +kernel
theorem dX12_newName_15 : decode cX12_newName 15 = .ok (.iload_n 2, 1) := by decide +kernel
theorem dX12_newName_16 : decode cX12_newName 16 = .ok (.iload_n 3, 1) := by decide +kernel
theorem dX12_newName_17 : decode cX12_newName 17 = .ok (.aload_n 0, 1) := by decide +kernel
theorem dX12_newName_18 : decode cX12_newName 18 = .ok (.getfield 204, 3) := by decide +kernel
theorem dX12_newName_21 : decode cX12_newName 21 = .ok (.invokestatic 283, 3) := by decide +kernel
theorem dX12_newName_24 : decode cX12_newName 24 = .ok (.ifCond .lt 9, 3) := by decide +kernel
theorem dX12_newName_27 : decode cX12_newName 27 = .ok (.aload_n 0, 1) := by decide +kernel
theorem dX12_newName_28 : decode cX12_newName 28 = .ok (.iconst 3, 1) := by decide +kernel
theorem dX12_newName_29 : decode cX12_newName 29 = .ok (.invokevirtual 217, 3) := by decide +kernel
theorem dX12_newName_32 : decode cX12_newName 32 = .ok (.ireturn, 1) := by decide +kernel
theorem dX12_newName_33 : decode cX12_newName 33 = .ok (.aload_n 1, 1) := by decide +kernel
theorem dX12_newName_34 : decode cX12_newName 34 = .ok (.iload_n 2, 1) := by decide +kernel
theorem dX12_newName_35 : decode cX12_newName 35 = .ok (.iload_n 3, 1) := by decide +kernel
theorem dX12_newName_36 : decode cX12_newName 36 = .ok (.iadd, 1) := by decide +kernel
theorem dX12_newName_37 : decode cX12_newName 37 = .ok (.aload_n 0, 1) := by decide +kernel
theorem dX12_newName_38 : decode cX12_newName 38 = .ok (.getfield 204, 3) := by decide +kernel
theorem dX12_newName_41 : decode cX12_newName 41 = .ok (.iastore, 1) := by decide +kernel
theorem dX12_newName_42 : decode cX12_newName 42 = .ok (.aload_n 0, 1) := by decide +kernel
theorem dX12_newName_43 : decode cX12_newName 43 = .ok (.invokevirtual 227, 3) := by decide +kernel
theorem dX12_newName_46 : decode cX12_newName 46 = .ok (.iconst 1, 1) := by decide +kernel
theorem dX12_newName_47 : decode cX12_newName 47 = .ok (.ireturn, 1) := by decide +kernel
theorem dX12_thereIn_0 : decode cX12_thereIn 0 = .ok (.aload_n 0, 1) := by decide +kernel
theorem dX12_thereIn_1 : decode cX12_thereIn 1 = .ok (.getfield 193, 3) := by decide +kernel
theorem dX12_thereIn_4 : decode cX12_thereIn 4 = .ok (.iconst 2, 1) := by decide +kernel
theorem dX12_thereIn_5 : decode cX12_thereIn 5 = .ok (.if_icmp .eq 9, 3) := by decide +kernel
theorem dX12_thereIn_8 : decode cX12_thereIn 8 = .ok (.aload_n 0, 1) := by decide +kernel
theorem dX12_thereIn_9 : decode cX12_thereIn 9 = .ok (.iconst 1, 1) := by decide +kernel
theorem dX12_thereIn_10 : decode cX12_thereIn 10 = .ok (.invokevirtual 217, 3) := by decide +kernel
theorem dX12_thereIn_13 : decode cX12_thereIn 13 = .ok (.ireturn, 1) := by decide +kernel
theorem dX12_thereIn_14 : decode cX12_thereIn 14 = .ok (.aload_n 1, 1) := by decide +kernel
theorem dX12_thereIn_15 : decode cX12_thereIn 15 = .ok (.iload_n 2, 1) := by decide +kernel
theorem dX12_thereIn_16 : decode cX12_thereIn 16 = .ok (.iload_n 3, 1) := by decide +kernel
theorem dX12_thereIn_17 : decode cX12_thereIn 17 = .ok (.aload_n 0, 1) := by decide +kernel
theorem dX12_thereIn_18 : decode cX12_thereIn 18 = .ok (.getfield 204, 3) := by decide +kernel
theorem dX12_thereIn_21 : decode cX12_thereIn 21 = .ok (.invokestatic 283, 3) := by decide +kernel
theorem dX12_thereIn_24 : decode cX12_thereIn 24 = .ok (.istore 4, 2) := by decide +kernel
theorem dX12_thereIn_26 : decode cX12_thereIn 26 = .ok (.iload 4, 2) := by decide +kernel
theorem dX12_thereIn_28 : decode cX12_thereIn 28 = .ok (.ifCond .ge 9, 3) := by decide +kernel
theorem dX12_thereIn_31 : decode cX12_thereIn 31 = .ok (.aload_n 0, 1) := by decide +kernel
theorem dX12_thereIn_32 : decode cX12_thereIn 32 = .ok (.iconst 4, 1) := by decide +kernel
theorem dX12_thereIn_33 : decode cX12_thereIn 33 = .ok (.invokevirtual 217, 3) := by decide +kernel
theorem dX12_thereIn_36 : decode cX12_thereIn 36 = .ok (.ireturn, 1) := by decide +kernel
theorem dX12_thereIn_37 : decode cX12_thereIn 37 = .ok (.aload_n 0, 1) := by decide +kernel
theorem dX12_thereIn_38 : decode cX12_thereIn 38 = .ok (.invokevirtual 227, 3) := by decide +kernel
theorem dX12_thereIn_41 : decode cX12_thereIn 41 = .ok (.aload_n 0, 1) := by decide +kernel
theorem dX12_thereIn_42 : decode cX12_thereIn 42 = .ok (.iload 4, 2) := by decide +kernel
theorem dX12_thereIn_44 : decode cX12_thereIn 44 = .ok (.putfield 224, 3) := by decide +kernel
theorem dX12_thereIn_47 : decode cX12_thereIn 47 = .ok (.iconst 1, 1) := by decide +kernel
theorem dX12_thereIn_48 : decode cX12_thereIn 48 = .ok (.ireturn, 1) := by decide +kernel
theorem dX12_houseLine_0 : decode cX12_houseLine 0 = .ok (.aload_n 0, 1) := by decide +kernel
theorem dX12_houseLine_1 : decode cX12_houseLine 1 = .ok (.getfield 237, 3) := by decide +kernel
theorem dX12_houseLine_4 : decode cX12_houseLine 4 = .ok (.bipush 6, 2) := by decide +kernel
theorem dX12_houseLine_6 : decode cX12_houseLine 6 = .ok (.if_icmp .ne 9, 3) := by decide +kernel
theorem dX12_houseLine_9 : decode cX12_houseLine 9 = .ok (.aload_n 0, 1) := by decide +kernel
theorem dX12_houseLine_10 : decode cX12_houseLine 10 = .ok (.iconst 2, 1) := by decide +kernel
theorem dX12_houseLine_11 : decode cX12_houseLine 11 = .ok (.invokevirtual 217, 3) := by decide +kernel
theorem dX12_houseLine_14 : decode cX12_houseLine 14 = .ok (.ireturn, 1) := by decide +kernel
theorem dX12_houseLine_15 : decode cX12_houseLine 15 = .ok (.aload_n 0, 1) := by decide +kernel
theorem dX12_houseLine_16 : decode cX12_houseLine 16 = .ok (.invokevirtual 227, 3) := by decide +kernel
theorem dX12_houseLine_19 : decode cX12_houseLine 19 = .ok (.aload_n 0, 1) := by decide +kernel
theorem dX12_houseLine_20 : decode cX12_houseLine 20 = .ok (.aload_n 0, 1) := by decide +kernel
theorem dX12_houseLine_21 : decode cX12_houseLine 21 = .ok (.getfield 27, 3) := by decide +kernel
theorem dX12_houseLine_24 : decode cX12_houseLine 24 = .ok (.bipush 6, 2) := by decide +kernel
theorem dX12_houseLine_26 : decode cX12_houseLine 26 = .ok (.aload_n 0, 1) := by decide +kernel
theorem dX12_houseLine_27 : decode cX12_houseLine 27 = .ok (.getfield 237, 3) := by decide +kernel
theorem dX12_houseLine_30 : decode cX12_houseLine 30 = .ok (.invokevirtual 287, 3) := by decide +kernel
theorem dX12_houseLine_33 : decode cX12_houseLine 33 = .ok (.ifCond .ne 5, 3) := by decide +kernel
theorem dX12_houseLine_36 : decode cX12_houseLine 36 = .ok (.iconst 0, 1) := by decide +kernel
theorem dX12_houseLine_37 : decode cX12_houseLine 37 = .ok (.ireturn, 1) := by decide +kernel
theorem dX12_houseLine_38 : decode cX12_houseLine 38 = .ok (.aload_n 0, 1) := by decide +kernel
theorem dX12_houseLine_39 : decode cX12_houseLine 39 = .ok (.iconst 0, 1) := by decide +kernel
theorem dX12_houseLine_40 : decode cX12_houseLine 40 = .ok (.bipush 99, 2) := by decide +kernel
theorem dX12_houseLine_42 : decode cX12_houseLine 42 = .ok (.invokevirtual 233, 3) := by decide +kernel
theorem dX12_houseLine_45 : decode cX12_houseLine 45 = .ok (.ifCond .ne 5, 3) := by decide +kernel
theorem dX12_houseLine_48 : decode cX12_houseLine 48 = .ok (.iconst 0, 1) := by decide +kernel
theorem dX12_houseLine_49 : decode cX12_houseLine 49 = .ok (.ireturn, 1) := by decide +kernel
theorem dX12_houseLine_50 : decode cX12_houseLine 50 = .ok (.aload_n 0, 1) := by decide +kernel
theorem dX12_houseLine_51 : decode cX12_houseLine 51 = .ok (.getfield 30, 3) := by decide +kernel
theorem dX12_houseLine_54 : decode cX12_houseLine 54 = .ok (.bipush 6, 2) := by decide +kernel
theorem dX12_houseLine_56 : decode cX12_houseLine 56 = .ok (.aload_n 0, 1) := by decide +kernel
theorem dX12_houseLine_57 : decode cX12_houseLine 57 = .ok (.getfield 237, 3) := by decide +kernel
theorem dX12_houseLine_60 : decode cX12_houseLine 60 = .ok (.iadd, 1) := by decide +kernel
theorem dX12_houseLine_61 : decode cX12_houseLine 61 = .ok (.aload_n 0, 1) := by decide +kernel
theorem dX12_houseLine_62 : decode cX12_houseLine 62 = .ok (.getfield 224, 3) := by decide +kernel
theorem dX12_houseLine_65 : decode cX12_houseLine 65 = .ok (.iastore, 1) := by decide +kernel
theorem dX12_houseLine_66 : decode cX12_houseLine 66 = .ok (.aload_n 0, 1) := by decide +kernel
theorem dX12_houseLine_67 : decode cX12_houseLine 67 = .ok (.dup, 1) := by decide +kernel
theorem dX12_houseLine_68 : decode cX12_houseLine 68 = .ok (.getfield 237, 3) := by decide +kernel
theorem dX12_houseLine_71 : decode cX12_houseLine 71 = .ok (.iconst 1, 1) := by decide +kernel
theorem dX12_houseLine_72 : decode cX12_houseLine 72 = .ok (.iadd, 1) := by decide +kernel
theorem dX12_houseLine_73 : decode cX12_houseLine 73 = .ok (.putfield 237, 3) := by decide +kernel
theorem dX12_houseLine_76 : decode cX12_houseLine 76 = .ok (.iconst 1, 1) := by decide +kernel
theorem dX12_houseLine_77 : decode cX12_houseLine 77 = .ok (.ireturn, 1) := by decide +kernel
theorem dX12_manLine_0 : decode cX12_manLine 0 = .ok (.aload_n 0, 1) := by decide +kernel
theorem dX12_manLine_1 : decode cX12_manLine 1 = .ok (.getfield 240, 3) := by decide +kernel
theorem dX12_manLine_4 : decode cX12_manLine 4 = .ok (.bipush 8, 2) := by decide +kernel
theorem dX12_manLine_6 : decode cX12_manLine 6 = .ok (.if_icmp .ne 9, 3) := by decide +kernel
theorem dX12_manLine_9 : decode cX12_manLine 9 = .ok (.aload_n 0, 1) := by decide +kernel
theorem dX12_manLine_10 : decode cX12_manLine 10 = .ok (.iconst 2, 1) := by decide +kernel
theorem dX12_manLine_11 : decode cX12_manLine 11 = .ok (.invokevirtual 217, 3) := by decide +kernel
theorem dX12_manLine_14 : decode cX12_manLine 14 = .ok (.ireturn, 1) := by decide +kernel
theorem dX12_manLine_15 : decode cX12_manLine 15 = .ok (.aload_n 0, 1) := by decide +kernel
theorem dX12_manLine_16 : decode cX12_manLine 16 = .ok (.invokevirtual 227, 3) := by decide +kernel
theorem dX12_manLine_19 : decode cX12_manLine 19 = .ok (.aload_n 0, 1) := by decide +kernel
theorem dX12_manLine_20 : decode cX12_manLine 20 = .ok (.aload_n 0, 1) := by decide +kernel
theorem dX12_manLine_21 : decode cX12_manLine 21 = .ok (.getfield 33, 3) := by decide +kernel
theorem dX12_manLine_24 : decode cX12_manLine 24 = .ok (.bipush 8, 2) := by decide +kernel
theorem dX12_manLine_26 : decode cX12_manLine 26 = .ok (.aload_n 0, 1) := by decide +kernel
theorem dX12_manLine_27 : decode cX12_manLine 27 = .ok (.getfield 240, 3) := by decide +kernel
theorem dX12_manLine_30 : decode cX12_manLine 30 = .ok (.invokevirtual 287, 3) := by decide +kernel
theorem dX12_manLine_33 : decode cX12_manLine 33 = .ok (.ifCond .ne 5, 3) := by decide +kernel
theorem dX12_manLine_36 : decode cX12_manLine 36 = .ok (.iconst 0, 1) := by decide +kernel
theorem dX12_manLine_37 : decode cX12_manLine 37 = .ok (.ireturn, 1) := by decide +kernel
theorem dX12_manLine_38 : decode cX12_manLine 38 = .ok (.bipush 8, 2) := by decide +kernel
theorem dX12_manLine_40 : decode cX12_manLine 40 = .ok (.aload_n 0, 1) := by decide +kernel
theorem dX12_manLine_41 : decode cX12_manLine 41 = .ok (.getfield 240, 3) := by decide +kernel
theorem dX12_manLine_44 : decode cX12_manLine 44 = .ok (.iadd, 1) := by decide +kernel
theorem dX12_manLine_45 : decode cX12_manLine 45 = .ok (.istore_n 1, 1) := by decide +kernel
theorem dX12_manLine_46 : decode cX12_manLine 46 = .ok (.aload_n 0, 1) := by decide +kernel
theorem dX12_manLine_47 : decode cX12_manLine 47 = .ok (.aload_n 0, 1) := by decide +kernel
theorem dX12_manLine_48 : decode cX12_manLine 48 = .ok (.getfield 27, 3) := by decide +kernel
theorem dX12_manLine_51 : decode cX12_manLine 51 = .ok (.bipush 6, 2) := by decide +kernel
theorem dX12_manLine_53 : decode cX12_manLine 53 = .ok (.aload_n 0, 1) := by decide +kernel
theorem dX12_manLine_54 : decode cX12_manLine 54 = .ok (.getfield 237, 3) := by decide +kernel
theorem dX12_manLine_57 : decode cX12_manLine 57 = .ok (.invokevirtual 291, 3) := by decide +kernel
theorem dX12_manLine_60 : decode cX12_manLine 60 = .ok (.ifCond .ne 5, 3) := by decide +kernel
theorem dX12_manLine_63 : decode cX12_manLine 63 = .ok (.iconst 0, 1) := by decide +kernel
theorem dX12_manLine_64 : decode cX12_manLine 64 = .ok (.ireturn, 1) := by decide +kernel
theorem dX12_manLine_65 : decode cX12_manLine 65 = .ok (.aload_n 0, 1) := by decide +kernel
theorem dX12_manLine_66 : decode cX12_manLine 66 = .ok (.getfield 36, 3) := by decide +kernel
theorem dX12_manLine_69 : decode cX12_manLine 69 = .ok (.iload_n 1, 1) := by decide +kernel
theorem dX12_manLine_70 : decode cX12_manLine 70 = .ok (.aload_n 0, 1) := by decide +kernel
theorem dX12_manLine_71 : decode cX12_manLine 71 = .ok (.getfield 224, 3) := by decide +kernel
theorem dX12_manLine_74 : decode cX12_manLine 74 = .ok (.iastore, 1) := by decide +kernel
theorem dX12_manLine_75 : decode cX12_manLine 75 = .ok (.aload_n 0, 1) := by decide +kernel
theorem dX12_manLine_76 : decode cX12_manLine 76 = .ok (.iconst 0, 1) := by decide +kernel
theorem dX12_manLine_77 : decode cX12_manLine 77 = .ok (.bipush 99, 2) := by decide +kernel
theorem dX12_manLine_79 : decode cX12_manLine 79 = .ok (.invokevirtual 233, 3) := by decide +kernel
theorem dX12_manLine_82 : decode cX12_manLine 82 = .ok (.ifCond .ne 5, 3) := by decide +kernel
theorem dX12_manLine_85 : decode cX12_manLine 85 = .ok (.iconst 0, 1) := by decide +kernel
theorem dX12_manLine_86 : decode cX12_manLine 86 = .ok (.ireturn, 1) := by decide +kernel
theorem dX12_manLine_87 : decode cX12_manLine 87 = .ok (.aload_n 0, 1) := by decide +kernel
theorem dX12_manLine_88 : decode cX12_manLine 88 = .ok (.getfield 39, 3) := by decide +kernel
theorem dX12_manLine_91 : decode cX12_manLine 91 = .ok (.iload_n 1, 1) := by decide +kernel
theorem dX12_manLine_92 : decode cX12_manLine 92 = .ok (.aload_n 0, 1) := by decide +kernel
theorem dX12_manLine_93 : decode cX12_manLine 93 = .ok (.getfield 224, 3) := by decide +kernel
theorem dX12_manLine_96 : decode cX12_manLine 96 = .ok (.iastore, 1) := by decide +kernel
theorem dX12_manLine_97 : decode cX12_manLine 97 = .ok (.aload_n 0, 1) := by decide +kernel
theorem dX12_manLine_98 : decode cX12_manLine 98 = .ok (.iconst 0, 1) := by decide +kernel
theorem dX12_manLine_99 : decode cX12_manLine 99 = .ok (.bipush 7, 2) := by decide +kernel
theorem dX12_manLine_101 : decode cX12_manLine 101 = .ok (.invokevirtual 233, 3) := by decide +kernel
theorem dX12_manLine_104 : decode cX12_manLine 104 = .ok (.ifCond .ne 5, 3) := by decide +kernel
theorem dX12_manLine_107 : decode cX12_manLine 107 = .ok (.iconst 0, 1) := by decide +kernel
theorem dX12_manLine_108 : decode cX12_manLine 108 = .ok (.ireturn, 1) := by decide +kernel
theorem dX12_manLine_109 : decode cX12_manLine 109 = .ok (.aload_n 0, 1) := by decide +kernel
theorem dX12_manLine_110 : decode cX12_manLine 110 = .ok (.getfield 42, 3) := by decide +kernel
theorem dX12_manLine_113 : decode cX12_manLine 113 = .ok (.iload_n 1, 1) := by decide +kernel
theorem dX12_manLine_114 : decode cX12_manLine 114 = .ok (.aload_n 0, 1) := by decide +kernel
theorem dX12_manLine_115 : decode cX12_manLine 115 = .ok (.getfield 224, 3) := by decide +kernel
theorem dX12_manLine_118 : decode cX12_manLine 118 = .ok (.iastore, 1) := by decide +kernel
theorem dX12_manLine_119 : decode cX12_manLine 119 = .ok (.aload_n 0, 1) := by decide +kernel
theorem dX12_manLine_120 : decode cX12_manLine 120 = .ok (.iconst 0, 1) := by decide +kernel
theorem dX12_manLine_121 : decode cX12_manLine 121 = .ok (.bipush 20, 2) := by decide +kernel
theorem dX12_manLine_123 : decode cX12_manLine 123 = .ok (.invokevirtual 233, 3) := by decide +kernel
theorem dX12_manLine_126 : decode cX12_manLine 126 = .ok (.ifCond .ne 5, 3) := by decide +kernel
theorem dX12_manLine_129 : decode cX12_manLine 129 = .ok (.iconst 0, 1) := by decide +kernel
theorem dX12_manLine_130 : decode cX12_manLine 130 = .ok (.ireturn, 1) := by decide +kernel
theorem dX12_manLine_131 : decode cX12_manLine 131 = .ok (.aload_n 0, 1) := by decide +kernel
theorem dX12_manLine_132 : decode cX12_manLine 132 = .ok (.getfield 45, 3) := by decide +kernel
theorem dX12_manLine_135 : decode cX12_manLine 135 = .ok (.iload_n 1, 1) := by decide +kernel
theorem dX12_manLine_136 : decode cX12_manLine 136 = .ok (.aload_n 0, 1) := by decide +kernel
theorem dX12_manLine_137 : decode cX12_manLine 137 = .ok (.getfield 224, 3) := by decide +kernel
theorem dX12_manLine_140 : decode cX12_manLine 140 = .ok (.iastore, 1) := by decide +kernel
theorem dX12_manLine_141 : decode cX12_manLine 141 = .ok (.aload_n 0, 1) := by decide +kernel
theorem dX12_manLine_142 : decode cX12_manLine 142 = .ok (.dup, 1) := by decide +kernel
theorem dX12_manLine_143 : decode cX12_manLine 143 = .ok (.getfield 240, 3) := by decide +kernel
theorem dX12_manLine_146 : decode cX12_manLine 146 = .ok (.iconst 1, 1) := by decide +kernel
theorem dX12_manLine_147 : decode cX12_manLine 147 = .ok (.iadd, 1) := by decide +kernel
theorem dX12_manLine_148 : decode cX12_manLine 148 = .ok (.putfield 240, 3) := by decide +kernel
theorem dX12_manLine_151 : decode cX12_manLine 151 = .ok (.iconst 1, 1) := by decide +kernel
theorem dX12_manLine_152 : decode cX12_manLine 152 = .ok (.ireturn, 1) := by decide +kernel
theorem dX12_deedLine_0 : decode cX12_deedLine 0 = .ok (.aload_n 0, 1) := by decide +kernel
theorem dX12_deedLine_1 : decode cX12_deedLine 1 = .ok (.getfield 243, 3) := by decide +kernel
theorem dX12_deedLine_4 : decode cX12_deedLine 4 = .ok (.bipush 14, 2) := by decide +kernel
theorem dX12_deedLine_6 : decode cX12_deedLine 6 = .ok (.if_icmp .ne 9, 3) := by decide +kernel
theorem dX12_deedLine_9 : decode cX12_deedLine 9 = .ok (.aload_n 0, 1) := by decide +kernel
theorem dX12_deedLine_10 : decode cX12_deedLine 10 = .ok (.iconst 2, 1) := by decide +kernel
theorem dX12_deedLine_11 : decode cX12_deedLine 11 = .ok (.invokevirtual 217, 3) := by decide +kernel
theorem dX12_deedLine_14 : decode cX12_deedLine 14 = .ok (.ireturn, 1) := by decide +kernel
theorem dX12_deedLine_15 : decode cX12_deedLine 15 = .ok (.aload_n 0, 1) := by decide +kernel
theorem dX12_deedLine_16 : decode cX12_deedLine 16 = .ok (.invokevirtual 227, 3) := by decide +kernel
theorem dX12_deedLine_19 : decode cX12_deedLine 19 = .ok (.bipush 14, 2) := by decide +kernel
theorem dX12_deedLine_21 : decode cX12_deedLine 21 = .ok (.aload_n 0, 1) := by decide +kernel
theorem dX12_deedLine_22 : decode cX12_deedLine 22 = .ok (.getfield 243, 3) := by decide +kernel
theorem dX12_deedLine_25 : decode cX12_deedLine 25 = .ok (.iadd, 1) := by decide +kernel
theorem dX12_deedLine_26 : decode cX12_deedLine 26 = .ok (.istore_n 2, 1) := by decide +kernel
theorem dX12_deedLine_27 : decode cX12_deedLine 27 = .ok (.aload_n 0, 1) := by decide +kernel
theorem dX12_deedLine_28 : decode cX12_deedLine 28 = .ok (.aload_n 0, 1) := by decide +kernel
theorem dX12_deedLine_29 : decode cX12_deedLine 29 = .ok (.getfield 27, 3) := by decide +kernel
theorem dX12_deedLine_32 : decode cX12_deedLine 32 = .ok (.bipush 6, 2) := by decide +kernel
theorem dX12_deedLine_34 : decode cX12_deedLine 34 = .ok (.aload_n 0, 1) := by decide +kernel
theorem dX12_deedLine_35 : decode cX12_deedLine 35 = .ok (.getfield 237, 3) := by decide +kernel
theorem dX12_deedLine_38 : decode cX12_deedLine 38 = .ok (.invokevirtual 291, 3) := by decide +kernel
theorem dX12_deedLine_41 : decode cX12_deedLine 41 = .ok (.ifCond .ne 5, 3) := by decide +kernel
theorem dX12_deedLine_44 : decode cX12_deedLine 44 = .ok (.iconst 0, 1) := by decide +kernel
theorem dX12_deedLine_45 : decode cX12_deedLine 45 = .ok (.ireturn, 1) := by decide +kernel
theorem dX12_deedLine_46 : decode cX12_deedLine 46 = .ok (.aload_n 0, 1) := by decide +kernel
theorem dX12_deedLine_47 : decode cX12_deedLine 47 = .ok (.getfield 48, 3) := by decide +kernel
theorem dX12_deedLine_50 : decode cX12_deedLine 50 = .ok (.iload_n 2, 1) := by decide +kernel
theorem dX12_deedLine_51 : decode cX12_deedLine 51 = .ok (.aload_n 0, 1) := by decide +kernel
theorem dX12_deedLine_52 : decode cX12_deedLine 52 = .ok (.getfield 224, 3) := by decide +kernel
theorem dX12_deedLine_55 : decode cX12_deedLine 55 = .ok (.iastore, 1) := by decide +kernel
theorem dX12_deedLine_56 : decode cX12_deedLine 56 = .ok (.aload_n 0, 1) := by decide +kernel
theorem dX12_deedLine_57 : decode cX12_deedLine 57 = .ok (.iconst 0, 1) := by decide +kernel
theorem dX12_deedLine_58 : decode cX12_deedLine 58 = .ok (.bipush 7, 2) := by decide +kernel
theorem dX12_deedLine_60 : decode cX12_deedLine 60 = .ok (.invokevirtual 233, 3) := by decide +kernel
theorem dX12_deedLine_63 : decode cX12_deedLine 63 = .ok (.ifCond .ne 5, 3) := by decide +kernel
theorem dX12_deedLine_66 : decode cX12_deedLine 66 = .ok (.iconst 0, 1) := by decide +kernel
theorem dX12_deedLine_67 : decode cX12_deedLine 67 = .ok (.ireturn, 1) := by decide +kernel
theorem dX12_deedLine_68 : decode cX12_deedLine 68 = .ok (.aload_n 0, 1) := by decide +kernel
theorem dX12_deedLine_69 : decode cX12_deedLine 69 = .ok (.getfield 51, 3) := by decide +kernel
theorem dX12_deedLine_72 : decode cX12_deedLine 72 = .ok (.iload_n 2, 1) := by decide +kernel
theorem dX12_deedLine_73 : decode cX12_deedLine 73 = .ok (.aload_n 0, 1) := by decide +kernel
theorem dX12_deedLine_74 : decode cX12_deedLine 74 = .ok (.getfield 224, 3) := by decide +kernel
theorem dX12_deedLine_77 : decode cX12_deedLine 77 = .ok (.iastore, 1) := by decide +kernel
theorem dX12_deedLine_78 : decode cX12_deedLine 78 = .ok (.aload_n 0, 1) := by decide +kernel
theorem dX12_deedLine_79 : decode cX12_deedLine 79 = .ok (.iconst 1, 1) := by decide +kernel
theorem dX12_deedLine_80 : decode cX12_deedLine 80 = .ok (.bipush 20, 2) := by decide +kernel
theorem dX12_deedLine_82 : decode cX12_deedLine 82 = .ok (.invokevirtual 233, 3) := by decide +kernel
theorem dX12_deedLine_85 : decode cX12_deedLine 85 = .ok (.ifCond .ne 5, 3) := by decide +kernel
theorem dX12_deedLine_88 : decode cX12_deedLine 88 = .ok (.iconst 0, 1) := by decide +kernel
theorem dX12_deedLine_89 : decode cX12_deedLine 89 = .ok (.ireturn, 1) := by decide +kernel
theorem dX12_deedLine_90 : decode cX12_deedLine 90 = .ok (.aload_n 0, 1) := by decide +kernel
theorem dX12_deedLine_91 : decode cX12_deedLine 91 = .ok (.getfield 54, 3) := by decide +kernel
theorem dX12_deedLine_94 : decode cX12_deedLine 94 = .ok (.iload_n 2, 1) := by decide +kernel
theorem dX12_deedLine_95 : decode cX12_deedLine 95 = .ok (.aload_n 0, 1) := by decide +kernel
theorem dX12_deedLine_96 : decode cX12_deedLine 96 = .ok (.getfield 224, 3) := by decide +kernel
theorem dX12_deedLine_99 : decode cX12_deedLine 99 = .ok (.iastore, 1) := by decide +kernel
theorem dX12_deedLine_100 : decode cX12_deedLine 100 = .ok (.aload_n 0, 1) := by decide +kernel
theorem dX12_deedLine_101 : decode cX12_deedLine 101 = .ok (.getfield 57, 3) := by decide +kernel
theorem dX12_deedLine_104 : decode cX12_deedLine 104 = .ok (.iload_n 2, 1) := by decide +kernel
theorem dX12_deedLine_105 : decode cX12_deedLine 105 = .ok (.iload_n 1, 1) := by decide +kernel
theorem dX12_deedLine_106 : decode cX12_deedLine 106 = .ok (.iastore, 1) := by decide +kernel
theorem dX12_deedLine_107 : decode cX12_deedLine 107 = .ok (.aload_n 0, 1) := by decide +kernel
theorem dX12_deedLine_108 : decode cX12_deedLine 108 = .ok (.iconst 0, 1) := by decide +kernel
theorem dX12_deedLine_109 : decode cX12_deedLine 109 = .ok (.bipush 99, 2) := by decide +kernel
theorem dX12_deedLine_111 : decode cX12_deedLine 111 = .ok (.invokevirtual 233, 3) := by decide +kernel
theorem dX12_deedLine_114 : decode cX12_deedLine 114 = .ok (.ifCond .ne 5, 3) := by decide +kernel
theorem dX12_deedLine_117 : decode cX12_deedLine 117 = .ok (.iconst 0, 1) := by decide +kernel
theorem dX12_deedLine_118 : decode cX12_deedLine 118 = .ok (.ireturn, 1) := by decide +kernel
theorem dX12_deedLine_119 : decode cX12_deedLine 119 = .ok (.aload_n 0, 1) := by decide +kernel
theorem dX12_deedLine_120 : decode cX12_deedLine 120 = .ok (.getfield 60, 3) := by decide +kernel
theorem dX12_deedLine_123 : decode cX12_deedLine 123 = .ok (.iload_n 2, 1) := by decide +kernel
theorem dX12_deedLine_124 : decode cX12_deedLine 124 = .ok (.aload_n 0, 1) := by decide +kernel
theorem dX12_deedLine_125 : decode cX12_deedLine 125 = .ok (.getfield 224, 3) := by decide +kernel
theorem dX12_deedLine_128 : decode cX12_deedLine 128 = .ok (.iastore, 1) := by decide +kernel
theorem dX12_deedLine_129 : decode cX12_deedLine 129 = .ok (.aload_n 0, 1) := by decide +kernel
theorem dX12_deedLine_130 : decode cX12_deedLine 130 = .ok (.dup, 1) := by decide +kernel
theorem dX12_deedLine_131 : decode cX12_deedLine 131 = .ok (.getfield 243, 3) := by decide +kernel
theorem dX12_deedLine_134 : decode cX12_deedLine 134 = .ok (.iconst 1, 1) := by decide +kernel
theorem dX12_deedLine_135 : decode cX12_deedLine 135 = .ok (.iadd, 1) := by decide +kernel
theorem dX12_deedLine_136 : decode cX12_deedLine 136 = .ok (.putfield 243, 3) := by decide +kernel
theorem dX12_deedLine_139 : decode cX12_deedLine 139 = .ok (.iconst 1, 1) := by decide +kernel
theorem dX12_deedLine_140 : decode cX12_deedLine 140 = .ok (.ireturn, 1) := by decide +kernel
theorem dX12_wedLine_0 : decode cX12_wedLine 0 = .ok (.aload_n 0, 1) := by decide +kernel
theorem dX12_wedLine_1 : decode cX12_wedLine 1 = .ok (.getfield 246, 3) := by decide +kernel
theorem dX12_wedLine_4 : decode cX12_wedLine 4 = .ok (.bipush 6, 2) := by decide +kernel
theorem dX12_wedLine_6 : decode cX12_wedLine 6 = .ok (.if_icmp .ne 9, 3) := by decide +kernel
theorem dX12_wedLine_9 : decode cX12_wedLine 9 = .ok (.aload_n 0, 1) := by decide +kernel
theorem dX12_wedLine_10 : decode cX12_wedLine 10 = .ok (.iconst 2, 1) := by decide +kernel
theorem dX12_wedLine_11 : decode cX12_wedLine 11 = .ok (.invokevirtual 217, 3) := by decide +kernel
theorem dX12_wedLine_14 : decode cX12_wedLine 14 = .ok (.ireturn, 1) := by decide +kernel
theorem dX12_wedLine_15 : decode cX12_wedLine 15 = .ok (.aload_n 0, 1) := by decide +kernel
theorem dX12_wedLine_16 : decode cX12_wedLine 16 = .ok (.invokevirtual 227, 3) := by decide +kernel
theorem dX12_wedLine_19 : decode cX12_wedLine 19 = .ok (.bipush 6, 2) := by decide +kernel
theorem dX12_wedLine_21 : decode cX12_wedLine 21 = .ok (.aload_n 0, 1) := by decide +kernel
theorem dX12_wedLine_22 : decode cX12_wedLine 22 = .ok (.getfield 246, 3) := by decide +kernel
theorem dX12_wedLine_25 : decode cX12_wedLine 25 = .ok (.iadd, 1) := by decide +kernel
theorem dX12_wedLine_26 : decode cX12_wedLine 26 = .ok (.istore_n 1, 1) := by decide +kernel
theorem dX12_wedLine_27 : decode cX12_wedLine 27 = .ok (.aload_n 0, 1) := by decide +kernel
theorem dX12_wedLine_28 : decode cX12_wedLine 28 = .ok (.aload_n 0, 1) := by decide +kernel
theorem dX12_wedLine_29 : decode cX12_wedLine 29 = .ok (.getfield 33, 3) := by decide +kernel
theorem dX12_wedLine_32 : decode cX12_wedLine 32 = .ok (.bipush 8, 2) := by decide +kernel
theorem dX12_wedLine_34 : decode cX12_wedLine 34 = .ok (.aload_n 0, 1) := by decide +kernel
theorem dX12_wedLine_35 : decode cX12_wedLine 35 = .ok (.getfield 240, 3) := by decide +kernel
theorem dX12_wedLine_38 : decode cX12_wedLine 38 = .ok (.invokevirtual 291, 3) := by decide +kernel
theorem dX12_wedLine_41 : decode cX12_wedLine 41 = .ok (.ifCond .ne 5, 3) := by decide +kernel
theorem dX12_wedLine_44 : decode cX12_wedLine 44 = .ok (.iconst 0, 1) := by decide +kernel
theorem dX12_wedLine_45 : decode cX12_wedLine 45 = .ok (.ireturn, 1) := by decide +kernel
theorem dX12_wedLine_46 : decode cX12_wedLine 46 = .ok (.aload_n 0, 1) := by decide +kernel
theorem dX12_wedLine_47 : decode cX12_wedLine 47 = .ok (.getfield 63, 3) := by decide +kernel
theorem dX12_wedLine_50 : decode cX12_wedLine 50 = .ok (.iload_n 1, 1) := by decide +kernel
theorem dX12_wedLine_51 : decode cX12_wedLine 51 = .ok (.aload_n 0, 1) := by decide +kernel
theorem dX12_wedLine_52 : decode cX12_wedLine 52 = .ok (.getfield 224, 3) := by decide +kernel
theorem dX12_wedLine_55 : decode cX12_wedLine 55 = .ok (.iastore, 1) := by decide +kernel
theorem dX12_wedLine_56 : decode cX12_wedLine 56 = .ok (.aload_n 0, 1) := by decide +kernel
theorem dX12_wedLine_57 : decode cX12_wedLine 57 = .ok (.getfield 184, 3) := by decide +kernel
theorem dX12_wedLine_60 : decode cX12_wedLine 60 = .ok (.istore_n 2, 1) := by decide +kernel
theorem dX12_wedLine_61 : decode cX12_wedLine 61 = .ok (.aload_n 0, 1) := by decide +kernel
theorem dX12_wedLine_62 : decode cX12_wedLine 62 = .ok (.aload_n 0, 1) := by decide +kernel
theorem dX12_wedLine_63 : decode cX12_wedLine 63 = .ok (.getfield 33, 3) := by decide +kernel
theorem dX12_wedLine_66 : decode cX12_wedLine 66 = .ok (.bipush 8, 2) := by decide +kernel
theorem dX12_wedLine_68 : decode cX12_wedLine 68 = .ok (.aload_n 0, 1) := by decide +kernel
theorem dX12_wedLine_69 : decode cX12_wedLine 69 = .ok (.getfield 240, 3) := by decide +kernel
theorem dX12_wedLine_72 : decode cX12_wedLine 72 = .ok (.invokevirtual 291, 3) := by decide +kernel
theorem dX12_wedLine_75 : decode cX12_wedLine 75 = .ok (.ifCond .ne 5, 3) := by decide +kernel
theorem dX12_wedLine_78 : decode cX12_wedLine 78 = .ok (.iconst 0, 1) := by decide +kernel
theorem dX12_wedLine_79 : decode cX12_wedLine 79 = .ok (.ireturn, 1) := by decide +kernel
theorem dX12_wedLine_80 : decode cX12_wedLine 80 = .ok (.aload_n 0, 1) := by decide +kernel
theorem dX12_wedLine_81 : decode cX12_wedLine 81 = .ok (.getfield 66, 3) := by decide +kernel
theorem dX12_wedLine_84 : decode cX12_wedLine 84 = .ok (.iload_n 1, 1) := by decide +kernel
theorem dX12_wedLine_85 : decode cX12_wedLine 85 = .ok (.aload_n 0, 1) := by decide +kernel
theorem dX12_wedLine_86 : decode cX12_wedLine 86 = .ok (.getfield 224, 3) := by decide +kernel
theorem dX12_wedLine_89 : decode cX12_wedLine 89 = .ok (.iastore, 1) := by decide +kernel
theorem dX12_wedLine_90 : decode cX12_wedLine 90 = .ok (.aload_n 0, 1) := by decide +kernel
theorem dX12_wedLine_91 : decode cX12_wedLine 91 = .ok (.getfield 66, 3) := by decide +kernel
theorem dX12_wedLine_94 : decode cX12_wedLine 94 = .ok (.iload_n 1, 1) := by decide +kernel
theorem dX12_wedLine_95 : decode cX12_wedLine 95 = .ok (.iaload, 1) := by decide +kernel
theorem dX12_wedLine_96 : decode cX12_wedLine 96 = .ok (.aload_n 0, 1) := by decide +kernel
theorem dX12_wedLine_97 : decode cX12_wedLine 97 = .ok (.getfield 63, 3) := by decide +kernel
theorem dX12_wedLine_100 : decode cX12_wedLine 100 = .ok (.iload_n 1, 1) := by decide +kernel
theorem dX12_wedLine_101 : decode cX12_wedLine 101 = .ok (.iaload, 1) := by decide +kernel
theorem dX12_wedLine_102 : decode cX12_wedLine 102 = .ok (.if_icmp .ne 14, 3) := by decide +kernel
theorem dX12_wedLine_105 : decode cX12_wedLine 105 = .ok (.aload_n 0, 1) := by decide +kernel
theorem dX12_wedLine_106 : decode cX12_wedLine 106 = .ok (.iload_n 2, 1) := by decide +kernel
theorem dX12_wedLine_107 : decode cX12_wedLine 107 = .ok (.putfield 184, 3) := by decide +kernel
theorem dX12_wedLine_110 : decode cX12_wedLine 110 = .ok (.aload_n 0, 1) := by decide +kernel
theorem dX12_wedLine_111 : decode cX12_wedLine 111 = .ok (.iconst 5, 1) := by decide +kernel
theorem dX12_wedLine_112 : decode cX12_wedLine 112 = .ok (.invokevirtual 217, 3) := by decide +kernel
theorem dX12_wedLine_115 : decode cX12_wedLine 115 = .ok (.ireturn, 1) := by decide +kernel
theorem dX12_wedLine_116 : decode cX12_wedLine 116 = .ok (.aload_n 0, 1) := by decide +kernel
theorem dX12_wedLine_117 : decode cX12_wedLine 117 = .ok (.iconst 0, 1) := by decide +kernel
theorem dX12_wedLine_118 : decode cX12_wedLine 118 = .ok (.bipush 99, 2) := by decide +kernel
theorem dX12_wedLine_120 : decode cX12_wedLine 120 = .ok (.invokevirtual 233, 3) := by decide +kernel
theorem dX12_wedLine_123 : decode cX12_wedLine 123 = .ok (.ifCond .ne 5, 3) := by decide +kernel
theorem dX12_wedLine_126 : decode cX12_wedLine 126 = .ok (.iconst 0, 1) := by decide +kernel
theorem dX12_wedLine_127 : decode cX12_wedLine 127 = .ok (.ireturn, 1) := by decide +kernel
theorem dX12_wedLine_128 : decode cX12_wedLine 128 = .ok (.aload_n 0, 1) := by decide +kernel
theorem dX12_wedLine_129 : decode cX12_wedLine 129 = .ok (.getfield 69, 3) := by decide +kernel
theorem dX12_wedLine_132 : decode cX12_wedLine 132 = .ok (.iload_n 1, 1) := by decide +kernel
theorem dX12_wedLine_133 : decode cX12_wedLine 133 = .ok (.aload_n 0, 1) := by decide +kernel
theorem dX12_wedLine_134 : decode cX12_wedLine 134 = .ok (.getfield 224, 3) := by decide +kernel
theorem dX12_wedLine_137 : decode cX12_wedLine 137 = .ok (.iastore, 1) := by decide +kernel
theorem dX12_wedLine_138 : decode cX12_wedLine 138 = .ok (.aload_n 0, 1) := by decide +kernel
theorem dX12_wedLine_139 : decode cX12_wedLine 139 = .ok (.dup, 1) := by decide +kernel
theorem dX12_wedLine_140 : decode cX12_wedLine 140 = .ok (.getfield 246, 3) := by decide +kernel
theorem dX12_wedLine_143 : decode cX12_wedLine 143 = .ok (.iconst 1, 1) := by decide +kernel
theorem dX12_wedLine_144 : decode cX12_wedLine 144 = .ok (.iadd, 1) := by decide +kernel
theorem dX12_wedLine_145 : decode cX12_wedLine 145 = .ok (.putfield 246, 3) := by decide +kernel
theorem dX12_wedLine_148 : decode cX12_wedLine 148 = .ok (.iconst 1, 1) := by decide +kernel
theorem dX12_wedLine_149 : decode cX12_wedLine 149 = .ok (.ireturn, 1) := by decide +kernel
theorem dX12_stripLine_0 : decode cX12_stripLine 0 = .ok (.aload_n 0, 1) := by decide +kernel
theorem dX12_stripLine_1 : decode cX12_stripLine 1 = .ok (.getfield 249, 3) := by decide +kernel
theorem dX12_stripLine_4 : decode cX12_stripLine 4 = .ok (.iconst 4, 1) := by decide +kernel
theorem dX12_stripLine_5 : decode cX12_stripLine 5 = .ok (.if_icmp .ne 9, 3) := by decide +kernel
theorem dX12_stripLine_8 : decode cX12_stripLine 8 = .ok (.aload_n 0, 1) := by decide +kernel
theorem dX12_stripLine_9 : decode cX12_stripLine 9 = .ok (.iconst 2, 1) := by decide +kernel
theorem dX12_stripLine_10 : decode cX12_stripLine 10 = .ok (.invokevirtual 217, 3) := by decide +kernel
theorem dX12_stripLine_13 : decode cX12_stripLine 13 = .ok (.ireturn, 1) := by decide +kernel
theorem dX12_stripLine_14 : decode cX12_stripLine 14 = .ok (.aload_n 0, 1) := by decide +kernel
theorem dX12_stripLine_15 : decode cX12_stripLine 15 = .ok (.invokevirtual 227, 3) := by decide +kernel
theorem dX12_stripLine_18 : decode cX12_stripLine 18 = .ok (.aload_n 0, 1) := by decide +kernel
theorem dX12_stripLine_19 : decode cX12_stripLine 19 = .ok (.iconst 0, 1) := by decide +kernel
theorem dX12_stripLine_20 : decode cX12_stripLine 20 = .ok (.bipush 99, 2) := by decide +kernel
theorem dX12_stripLine_22 : decode cX12_stripLine 22 = .ok (.invokevirtual 233, 3) := by decide +kernel
theorem dX12_stripLine_25 : decode cX12_stripLine 25 = .ok (.ifCond .ne 5, 3) := by decide +kernel
theorem dX12_stripLine_28 : decode cX12_stripLine 28 = .ok (.iconst 0, 1) := by decide +kernel
theorem dX12_stripLine_29 : decode cX12_stripLine 29 = .ok (.ireturn, 1) := by decide +kernel
theorem dX12_stripLine_30 : decode cX12_stripLine 30 = .ok (.aload_n 0, 1) := by decide +kernel
theorem dX12_stripLine_31 : decode cX12_stripLine 31 = .ok (.getfield 72, 3) := by decide +kernel
theorem dX12_stripLine_34 : decode cX12_stripLine 34 = .ok (.iconst 4, 1) := by decide +kernel
theorem dX12_stripLine_35 : decode cX12_stripLine 35 = .ok (.aload_n 0, 1) := by decide +kernel
theorem dX12_stripLine_36 : decode cX12_stripLine 36 = .ok (.getfield 249, 3) := by decide +kernel
theorem dX12_stripLine_39 : decode cX12_stripLine 39 = .ok (.iadd, 1) := by decide +kernel
theorem dX12_stripLine_40 : decode cX12_stripLine 40 = .ok (.aload_n 0, 1) := by decide +kernel
theorem dX12_stripLine_41 : decode cX12_stripLine 41 = .ok (.getfield 224, 3) := by decide +kernel
theorem dX12_stripLine_44 : decode cX12_stripLine 44 = .ok (.iastore, 1) := by decide +kernel
theorem dX12_stripLine_45 : decode cX12_stripLine 45 = .ok (.aload_n 0, 1) := by decide +kernel
theorem dX12_stripLine_46 : decode cX12_stripLine 46 = .ok (.dup, 1) := by decide +kernel
theorem dX12_stripLine_47 : decode cX12_stripLine 47 = .ok (.getfield 249, 3) := by decide +kernel
theorem dX12_stripLine_50 : decode cX12_stripLine 50 = .ok (.iconst 1, 1) := by decide +kernel
theorem dX12_stripLine_51 : decode cX12_stripLine 51 = .ok (.iadd, 1) := by decide +kernel
theorem dX12_stripLine_52 : decode cX12_stripLine 52 = .ok (.putfield 249, 3) := by decide +kernel
theorem dX12_stripLine_55 : decode cX12_stripLine 55 = .ok (.iconst 1, 1) := by decide +kernel
theorem dX12_stripLine_56 : decode cX12_stripLine 56 = .ok (.ireturn, 1) := by decide +kernel
theorem dX12_onceLine_0 : decode cX12_onceLine 0 = .ok (.aload_n 0, 1) := by decide +kernel
theorem dX12_onceLine_1 : decode cX12_onceLine 1 = .ok (.getfield 20, 3) := by decide +kernel
theorem dX12_onceLine_4 : decode cX12_onceLine 4 = .ok (.iload_n 1, 1) := by decide +kernel
theorem dX12_onceLine_5 : decode cX12_onceLine 5 = .ok (.baload, 1) := by decide +kernel
theorem dX12_onceLine_6 : decode cX12_onceLine 6 = .ok (.ifCond .eq 9, 3) := by decide +kernel
theorem dX12_onceLine_9 : decode cX12_onceLine 9 = .ok (.aload_n 0, 1) := by decide +kernel
theorem dX12_onceLine_10 : decode cX12_onceLine 10 = .ok (.iconst 3, 1) := by decide +kernel
theorem dX12_onceLine_11 : decode cX12_onceLine 11 = .ok (.invokevirtual 217, 3) := by decide +kernel
theorem dX12_onceLine_14 : decode cX12_onceLine 14 = .ok (.ireturn, 1) := by decide +kernel
theorem dX12_onceLine_15 : decode cX12_onceLine 15 = .ok (.aload_n 0, 1) := by decide +kernel
theorem dX12_onceLine_16 : decode cX12_onceLine 16 = .ok (.getfield 20, 3) := by decide +kernel
theorem dX12_onceLine_19 : decode cX12_onceLine 19 = .ok (.iload_n 1, 1) := by decide +kernel
theorem dX12_onceLine_20 : decode cX12_onceLine 20 = .ok (.iconst 1, 1) := by decide +kernel
theorem dX12_onceLine_21 : decode cX12_onceLine 21 = .ok (.bastore, 1) := by decide +kernel
theorem dX12_onceLine_22 : decode cX12_onceLine 22 = .ok (.aload_n 0, 1) := by decide +kernel
theorem dX12_onceLine_23 : decode cX12_onceLine 23 = .ok (.invokevirtual 227, 3) := by decide +kernel
theorem dX12_onceLine_26 : decode cX12_onceLine 26 = .ok (.aload_n 0, 1) := by decide +kernel
theorem dX12_onceLine_27 : decode cX12_onceLine 27 = .ok (.iconst 0, 1) := by decide +kernel
theorem dX12_onceLine_28 : decode cX12_onceLine 28 = .ok (.iload_n 2, 1) := by decide +kernel
theorem dX12_onceLine_29 : decode cX12_onceLine 29 = .ok (.invokevirtual 233, 3) := by decide +kernel
theorem dX12_onceLine_32 : decode cX12_onceLine 32 = .ok (.ifCond .ne 5, 3) := by decide +kernel
theorem dX12_onceLine_35 : decode cX12_onceLine 35 = .ok (.iconst 0, 1) := by decide +kernel
theorem dX12_onceLine_36 : decode cX12_onceLine 36 = .ok (.ireturn, 1) := by decide +kernel
theorem dX12_onceLine_37 : decode cX12_onceLine 37 = .ok (.aload_n 0, 1) := by decide +kernel
theorem dX12_onceLine_38 : decode cX12_onceLine 38 = .ok (.getfield 24, 3) := by decide +kernel
theorem dX12_onceLine_41 : decode cX12_onceLine 41 = .ok (.iconst 2, 1) := by decide +kernel
theorem dX12_onceLine_42 : decode cX12_onceLine 42 = .ok (.iload_n 1, 1) := by decide +kernel
theorem dX12_onceLine_43 : decode cX12_onceLine 43 = .ok (.iadd, 1) := by decide +kernel
theorem dX12_onceLine_44 : decode cX12_onceLine 44 = .ok (.aload_n 0, 1) := by decide +kernel
theorem dX12_onceLine_45 : decode cX12_onceLine 45 = .ok (.getfield 224, 3) := by decide +kernel
theorem dX12_onceLine_48 : decode cX12_onceLine 48 = .ok (.iastore, 1) := by decide +kernel
theorem dX12_onceLine_49 : decode cX12_onceLine 49 = .ok (.iconst 1, 1) := by decide +kernel
theorem dX12_onceLine_50 : decode cX12_onceLine 50 = .ok (.ireturn, 1) := by decide +kernel
theorem dX12_lineRead_0 : decode cX12_lineRead 0 = .ok (.aload_n 0, 1) := by decide +kernel
theorem dX12_lineRead_1 : decode cX12_lineRead 1 = .ok (.getfield 193, 3) := by decide +kernel
theorem dX12_lineRead_4 : decode cX12_lineRead 4 = .ok (.iconst 1, 1) := by decide +kernel
theorem dX12_lineRead_5 : decode cX12_lineRead 5 = .ok (.if_icmp .ne 12, 3) := by decide +kernel
theorem dX12_lineRead_8 : decode cX12_lineRead 8 = .ok (.aload_n 0, 1) := by decide +kernel
theorem dX12_lineRead_9 : decode cX12_lineRead 9 = .ok (.getfield 204, 3) := by decide +kernel
theorem dX12_lineRead_12 : decode cX12_lineRead 12 = .ok (.bipush 8, 2) := by decide +kernel
theorem dX12_lineRead_14 : decode cX12_lineRead 14 = .ok (.if_icmp .le 9, 3) := by decide +kernel
theorem dX12_lineRead_17 : decode cX12_lineRead 17 = .ok (.aload_n 0, 1) := by decide +kernel
theorem dX12_lineRead_18 : decode cX12_lineRead 18 = .ok (.iconst 1, 1) := by decide +kernel
theorem dX12_lineRead_19 : decode cX12_lineRead 19 = .ok (.invokevirtual 217, 3) := by decide +kernel
theorem dX12_lineRead_22 : decode cX12_lineRead 22 = .ok (.ireturn, 1) := by decide +kernel
theorem dX12_lineRead_23 : decode cX12_lineRead 23 = .ok (.aload_n 0, 1) := by decide +kernel
theorem dX12_lineRead_24 : decode cX12_lineRead 24 = .ok (.getfield 204, 3) := by decide +kernel
theorem dX12_lineRead_27 : decode cX12_lineRead 27 = .ok (.tableswitch 117 0 7 #[45, 53, 61, 70, 79, 87, 95, 106], 45) := by decide +kernel
theorem dX12_lineRead_72 : decode cX12_lineRead 72 = .ok (.aload_n 0, 1) := by decide +kernel
theorem dX12_lineRead_73 : decode cX12_lineRead 73 = .ok (.invokevirtual 294, 3) := by decide +kernel
theorem dX12_lineRead_76 : decode cX12_lineRead 76 = .ok (.istore_n 1, 1) := by decide +kernel
theorem dX12_lineRead_77 : decode cX12_lineRead 77 = .ok (.goto 164, 3) := by decide +kernel
theorem dX12_lineRead_80 : decode cX12_lineRead 80 = .ok (.aload_n 0, 1) := by decide +kernel
theorem dX12_lineRead_81 : decode cX12_lineRead 81 = .ok (.invokevirtual 298, 3) := by decide +kernel
theorem dX12_lineRead_84 : decode cX12_lineRead 84 = .ok (.istore_n 1, 1) := by decide +kernel
theorem dX12_lineRead_85 : decode cX12_lineRead 85 = .ok (.goto 156, 3) := by decide +kernel
theorem dX12_lineRead_88 : decode cX12_lineRead 88 = .ok (.aload_n 0, 1) := by decide +kernel
theorem dX12_lineRead_89 : decode cX12_lineRead 89 = .ok (.iconst 1, 1) := by decide +kernel
theorem dX12_lineRead_90 : decode cX12_lineRead 90 = .ok (.invokevirtual 301, 3) := by decide +kernel
theorem dX12_lineRead_93 : decode cX12_lineRead 93 = .ok (.istore_n 1, 1) := by decide +kernel
theorem dX12_lineRead_94 : decode cX12_lineRead 94 = .ok (.goto 147, 3) := by decide +kernel
theorem dX12_lineRead_97 : decode cX12_lineRead 97 = .ok (.aload_n 0, 1) := by decide +kernel
theorem dX12_lineRead_98 : decode cX12_lineRead 98 = .ok (.iconst (-1), 1) := by decide +kernel
theorem dX12_lineRead_99 : decode cX12_lineRead 99 = .ok (.invokevirtual 301, 3) := by decide +kernel
theorem dX12_lineRead_102 : decode cX12_lineRead 102 = .ok (.istore_n 1, 1) := by decide +kernel
theorem dX12_lineRead_103 : decode cX12_lineRead 103 = .ok (.goto 138, 3) := by decide +kernel
theorem dX12_lineRead_106 : decode cX12_lineRead 106 = .ok (.aload_n 0, 1) := by decide +kernel
theorem dX12_lineRead_107 : decode cX12_lineRead 107 = .ok (.invokevirtual 304, 3) := by decide +kernel
theorem dX12_lineRead_110 : decode cX12_lineRead 110 = .ok (.istore_n 1, 1) := by decide +kernel
theorem dX12_lineRead_111 : decode cX12_lineRead 111 = .ok (.goto 130, 3) := by decide +kernel
theorem dX12_lineRead_114 : decode cX12_lineRead 114 = .ok (.aload_n 0, 1) := by decide +kernel
theorem dX12_lineRead_115 : decode cX12_lineRead 115 = .ok (.invokevirtual 307, 3) := by decide +kernel
theorem dX12_lineRead_118 : decode cX12_lineRead 118 = .ok (.istore_n 1, 1) := by decide +kernel
theorem dX12_lineRead_119 : decode cX12_lineRead 119 = .ok (.goto 122, 3) := by decide +kernel
theorem dX12_lineRead_122 : decode cX12_lineRead 122 = .ok (.aload_n 0, 1) := by decide +kernel
theorem dX12_lineRead_123 : decode cX12_lineRead 123 = .ok (.iconst 0, 1) := by decide +kernel
theorem dX12_lineRead_124 : decode cX12_lineRead 124 = .ok (.bipush 100, 2) := by decide +kernel
theorem dX12_lineRead_126 : decode cX12_lineRead 126 = .ok (.invokevirtual 310, 3) := by decide +kernel
theorem dX12_lineRead_129 : decode cX12_lineRead 129 = .ok (.istore_n 1, 1) := by decide +kernel
theorem dX12_lineRead_130 : decode cX12_lineRead 130 = .ok (.goto 111, 3) := by decide +kernel
theorem dX12_lineRead_133 : decode cX12_lineRead 133 = .ok (.aload_n 0, 1) := by decide +kernel
theorem dX12_lineRead_134 : decode cX12_lineRead 134 = .ok (.iconst 1, 1) := by decide +kernel
theorem dX12_lineRead_135 : decode cX12_lineRead 135 = .ok (.ldc 213, 2) := by decide +kernel
theorem dX12_lineRead_137 : decode cX12_lineRead 137 = .ok (.invokevirtual 310, 3) := by decide +kernel
theorem dX12_lineRead_140 : decode cX12_lineRead 140 = .ok (.istore_n 1, 1) := by decide +kernel
theorem dX12_lineRead_141 : decode cX12_lineRead 141 = .ok (.goto 100, 3) := by decide +kernel
theorem dX12_lineRead_144 : decode cX12_lineRead 144 = .ok (.aload_n 0, 1) := by decide +kernel
theorem dX12_lineRead_145 : decode cX12_lineRead 145 = .ok (.invokevirtual 227, 3) := by decide +kernel
theorem dX12_lineRead_148 : decode cX12_lineRead 148 = .ok (.aload_n 0, 1) := by decide +kernel
theorem dX12_lineRead_149 : decode cX12_lineRead 149 = .ok (.getfield 193, 3) := by decide +kernel
theorem dX12_lineRead_152 : decode cX12_lineRead 152 = .ok (.iconst 1, 1) := by decide +kernel
theorem dX12_lineRead_153 : decode cX12_lineRead 153 = .ok (.if_icmp .ne 21, 3) := by decide +kernel
theorem dX12_lineRead_156 : decode cX12_lineRead 156 = .ok (.aload_n 0, 1) := by decide +kernel
theorem dX12_lineRead_157 : decode cX12_lineRead 157 = .ok (.getfield 204, 3) := by decide +kernel
theorem dX12_lineRead_160 : decode cX12_lineRead 160 = .ok (.bipush 9, 2) := by decide +kernel
theorem dX12_lineRead_162 : decode cX12_lineRead 162 = .ok (.if_icmp .lt 12, 3) := by decide +kernel
theorem dX12_lineRead_165 : decode cX12_lineRead 165 = .ok (.aload_n 0, 1) := by decide +kernel
theorem dX12_lineRead_166 : decode cX12_lineRead 166 = .ok (.getfield 204, 3) := by decide +kernel
theorem dX12_lineRead_169 : decode cX12_lineRead 169 = .ok (.bipush 11, 2) := by decide +kernel
theorem dX12_lineRead_171 : decode cX12_lineRead 171 = .ok (.if_icmp .le 9, 3) := by decide +kernel
theorem dX12_lineRead_174 : decode cX12_lineRead 174 = .ok (.aload_n 0, 1) := by decide +kernel
theorem dX12_lineRead_175 : decode cX12_lineRead 175 = .ok (.iconst 1, 1) := by decide +kernel
theorem dX12_lineRead_176 : decode cX12_lineRead 176 = .ok (.invokevirtual 217, 3) := by decide +kernel
theorem dX12_lineRead_179 : decode cX12_lineRead 179 = .ok (.ireturn, 1) := by decide +kernel
theorem dX12_lineRead_180 : decode cX12_lineRead 180 = .ok (.iconst 3, 1) := by decide +kernel
theorem dX12_lineRead_181 : decode cX12_lineRead 181 = .ok (.aload_n 0, 1) := by decide +kernel
theorem dX12_lineRead_182 : decode cX12_lineRead 182 = .ok (.getfield 204, 3) := by decide +kernel
theorem dX12_lineRead_185 : decode cX12_lineRead 185 = .ok (.iadd, 1) := by decide +kernel
theorem dX12_lineRead_186 : decode cX12_lineRead 186 = .ok (.bipush 9, 2) := by decide +kernel
theorem dX12_lineRead_188 : decode cX12_lineRead 188 = .ok (.isub, 1) := by decide +kernel
theorem dX12_lineRead_189 : decode cX12_lineRead 189 = .ok (.istore_n 2, 1) := by decide +kernel
theorem dX12_lineRead_190 : decode cX12_lineRead 190 = .ok (.aload_n 0, 1) := by decide +kernel
theorem dX12_lineRead_191 : decode cX12_lineRead 191 = .ok (.getfield 75, 3) := by decide +kernel
theorem dX12_lineRead_194 : decode cX12_lineRead 194 = .ok (.iload_n 2, 1) := by decide +kernel
theorem dX12_lineRead_195 : decode cX12_lineRead 195 = .ok (.baload, 1) := by decide +kernel
theorem dX12_lineRead_196 : decode cX12_lineRead 196 = .ok (.ifCond .eq 9, 3) := by decide +kernel
theorem dX12_lineRead_199 : decode cX12_lineRead 199 = .ok (.aload_n 0, 1) := by decide +kernel
theorem dX12_lineRead_200 : decode cX12_lineRead 200 = .ok (.iconst 3, 1) := by decide +kernel
theorem dX12_lineRead_201 : decode cX12_lineRead 201 = .ok (.invokevirtual 217, 3) := by decide +kernel
theorem dX12_lineRead_204 : decode cX12_lineRead 204 = .ok (.ireturn, 1) := by decide +kernel
theorem dX12_lineRead_205 : decode cX12_lineRead 205 = .ok (.aload_n 0, 1) := by decide +kernel
theorem dX12_lineRead_206 : decode cX12_lineRead 206 = .ok (.getfield 75, 3) := by decide +kernel
theorem dX12_lineRead_209 : decode cX12_lineRead 209 = .ok (.iload_n 2, 1) := by decide +kernel
theorem dX12_lineRead_210 : decode cX12_lineRead 210 = .ok (.iconst 1, 1) := by decide +kernel
theorem dX12_lineRead_211 : decode cX12_lineRead 211 = .ok (.bastore, 1) := by decide +kernel
theorem dX12_lineRead_212 : decode cX12_lineRead 212 = .ok (.aload_n 0, 1) := by decide +kernel
theorem dX12_lineRead_213 : decode cX12_lineRead 213 = .ok (.invokevirtual 227, 3) := by decide +kernel
theorem dX12_lineRead_216 : decode cX12_lineRead 216 = .ok (.aload_n 0, 1) := by decide +kernel
theorem dX12_lineRead_217 : decode cX12_lineRead 217 = .ok (.getfield 78, 3) := by decide +kernel
theorem dX12_lineRead_220 : decode cX12_lineRead 220 = .ok (.iload_n 2, 1) := by decide +kernel
theorem dX12_lineRead_221 : decode cX12_lineRead 221 = .ok (.aload_n 0, 1) := by decide +kernel
theorem dX12_lineRead_222 : decode cX12_lineRead 222 = .ok (.getfield 252, 3) := by decide +kernel
theorem dX12_lineRead_225 : decode cX12_lineRead 225 = .ok (.iastore, 1) := by decide +kernel
theorem dX12_lineRead_226 : decode cX12_lineRead 226 = .ok (.aload_n 0, 1) := by decide +kernel
theorem dX12_lineRead_227 : decode cX12_lineRead 227 = .ok (.invokevirtual 313, 3) := by decide +kernel
theorem dX12_lineRead_230 : decode cX12_lineRead 230 = .ok (.istore_n 1, 1) := by decide +kernel
theorem dX12_lineRead_231 : decode cX12_lineRead 231 = .ok (.aload_n 0, 1) := by decide +kernel
theorem dX12_lineRead_232 : decode cX12_lineRead 232 = .ok (.getfield 81, 3) := by decide +kernel
theorem dX12_lineRead_235 : decode cX12_lineRead 235 = .ok (.iload_n 2, 1) := by decide +kernel
theorem dX12_lineRead_236 : decode cX12_lineRead 236 = .ok (.aload_n 0, 1) := by decide +kernel
theorem dX12_lineRead_237 : decode cX12_lineRead 237 = .ok (.getfield 252, 3) := by decide +kernel
theorem dX12_lineRead_240 : decode cX12_lineRead 240 = .ok (.iastore, 1) := by decide +kernel
theorem dX12_lineRead_241 : decode cX12_lineRead 241 = .ok (.iload_n 1, 1) := by decide +kernel
theorem dX12_lineRead_242 : decode cX12_lineRead 242 = .ok (.ifCond .ne 5, 3) := by decide +kernel
theorem dX12_lineRead_245 : decode cX12_lineRead 245 = .ok (.iconst 0, 1) := by decide +kernel
theorem dX12_lineRead_246 : decode cX12_lineRead 246 = .ok (.ireturn, 1) := by decide +kernel
theorem dX12_lineRead_247 : decode cX12_lineRead 247 = .ok (.aload_n 0, 1) := by decide +kernel
theorem dX12_lineRead_248 : decode cX12_lineRead 248 = .ok (.bipush 59, 2) := by decide +kernel
theorem dX12_lineRead_250 : decode cX12_lineRead 250 = .ok (.invokevirtual 230, 3) := by decide +kernel
theorem dX12_lineRead_253 : decode cX12_lineRead 253 = .ok (.ifCond .ne 9, 3) := by decide +kernel
theorem dX12_lineRead_256 : decode cX12_lineRead 256 = .ok (.aload_n 0, 1) := by decide +kernel
theorem dX12_lineRead_257 : decode cX12_lineRead 257 = .ok (.iconst 1, 1) := by decide +kernel
theorem dX12_lineRead_258 : decode cX12_lineRead 258 = .ok (.invokevirtual 217, 3) := by decide +kernel
theorem dX12_lineRead_261 : decode cX12_lineRead 261 = .ok (.ireturn, 1) := by decide +kernel
theorem dX12_lineRead_262 : decode cX12_lineRead 262 = .ok (.aload_n 0, 1) := by decide +kernel
theorem dX12_lineRead_263 : decode cX12_lineRead 263 = .ok (.invokevirtual 227, 3) := by decide +kernel
theorem dX12_lineRead_266 : decode cX12_lineRead 266 = .ok (.iconst 1, 1) := by decide +kernel
theorem dX12_lineRead_267 : decode cX12_lineRead 267 = .ok (.ireturn, 1) := by decide +kernel
theorem dX12_text_0 : decode cX12_text 0 = .ok (.aload_n 0, 1) := by decide +kernel
theorem dX12_text_1 : decode cX12_text 1 = .ok (.iconst 0, 1) := by decide +kernel
theorem dX12_text_2 : decode cX12_text 2 = .ok (.putfield 175, 3) := by decide +kernel
theorem dX12_text_5 : decode cX12_text 5 = .ok (.iload_n 1, 1) := by decide +kernel
theorem dX12_text_6 : decode cX12_text 6 = .ok (.ifCond .lt 11, 3) := by decide +kernel
theorem dX12_text_9 : decode cX12_text 9 = .ok (.iload_n 1, 1) := by decide +kernel
theorem dX12_text_10 : decode cX12_text 10 = .ok (.aload_n 0, 1) := by decide +kernel
theorem dX12_text_11 : decode cX12_text 11 = .ok (.getfield 178, 3) := by decide +kernel
theorem dX12_text_14 : decode cX12_text 14 = .ok (.if_icmp .le 6, 3) := by decide +kernel
theorem dX12_text_17 : decode cX12_text 17 = .ok (.bipush (-2), 2) := by decide +kernel
theorem dX12_text_19 : decode cX12_text 19 = .ok (.ireturn, 1) := by decide +kernel
theorem dX12_text_20 : decode cX12_text 20 = .ok (.aload_n 0, 1) := by decide +kernel
theorem dX12_text_21 : decode cX12_text 21 = .ok (.iload_n 1, 1) := by decide +kernel
theorem dX12_text_22 : decode cX12_text 22 = .ok (.putfield 187, 3) := by decide +kernel
theorem dX12_text_25 : decode cX12_text 25 = .ok (.aload_n 0, 1) := by decide +kernel
theorem dX12_text_26 : decode cX12_text 26 = .ok (.iconst 0, 1) := by decide +kernel
theorem dX12_text_27 : decode cX12_text 27 = .ok (.putfield 178, 3) := by decide +kernel
theorem dX12_text_30 : decode cX12_text 30 = .ok (.aload_n 0, 1) := by decide +kernel
theorem dX12_text_31 : decode cX12_text 31 = .ok (.iconst 0, 1) := by decide +kernel
theorem dX12_text_32 : decode cX12_text 32 = .ok (.putfield 181, 3) := by decide +kernel
theorem dX12_text_35 : decode cX12_text 35 = .ok (.aload_n 0, 1) := by decide +kernel
theorem dX12_text_36 : decode cX12_text 36 = .ok (.iconst (-1), 1) := by decide +kernel
theorem dX12_text_37 : decode cX12_text 37 = .ok (.putfield 16, 3) := by decide +kernel
theorem dX12_text_40 : decode cX12_text 40 = .ok (.aload_n 0, 1) := by decide +kernel
theorem dX12_text_41 : decode cX12_text 41 = .ok (.iconst 0, 1) := by decide +kernel
theorem dX12_text_42 : decode cX12_text 42 = .ok (.putfield 190, 3) := by decide +kernel
theorem dX12_text_45 : decode cX12_text 45 = .ok (.aload_n 0, 1) := by decide +kernel
theorem dX12_text_46 : decode cX12_text 46 = .ok (.invokevirtual 169, 3) := by decide +kernel
theorem dX12_text_49 : decode cX12_text 49 = .ok (.aload_n 0, 1) := by decide +kernel
theorem dX12_text_50 : decode cX12_text 50 = .ok (.invokevirtual 227, 3) := by decide +kernel
theorem dX12_text_53 : decode cX12_text 53 = .ok (.iconst 0, 1) := by decide +kernel
theorem dX12_text_54 : decode cX12_text 54 = .ok (.istore_n 2, 1) := by decide +kernel
theorem dX12_text_55 : decode cX12_text 55 = .ok (.aload_n 0, 1) := by decide +kernel
theorem dX12_text_56 : decode cX12_text 56 = .ok (.getfield 193, 3) := by decide +kernel
theorem dX12_text_59 : decode cX12_text 59 = .ok (.ifCond .eq 18, 3) := by decide +kernel
theorem dX12_text_62 : decode cX12_text 62 = .ok (.aload_n 0, 1) := by decide +kernel
theorem dX12_text_63 : decode cX12_text 63 = .ok (.invokevirtual 316, 3) := by decide +kernel
theorem dX12_text_66 : decode cX12_text 66 = .ok (.ifCond .ne 5, 3) := by decide +kernel
theorem dX12_text_69 : decode cX12_text 69 = .ok (.iconst (-1), 1) := by decide +kernel
theorem dX12_text_70 : decode cX12_text 70 = .ok (.ireturn, 1) := by decide +kernel
theorem dX12_text_71 : decode cX12_text 71 = .ok (.iinc 2 1, 3) := by decide +kernel
theorem dX12_text_74 : decode cX12_text 74 = .ok (.goto (-19), 3) := by decide +kernel
theorem dX12_text_77 : decode cX12_text 77 = .ok (.aload_n 0, 1) := by decide +kernel
theorem dX12_text_78 : decode cX12_text 78 = .ok (.invokevirtual 172, 3) := by decide +kernel
theorem dX12_text_81 : decode cX12_text 81 = .ok (.iload_n 2, 1) := by decide +kernel
theorem dX12_text_82 : decode cX12_text 82 = .ok (.ireturn, 1) := by decide +kernel
theorem dX12_fault_0 : decode cX12_fault 0 = .ok (.aload_n 0, 1) := by decide +kernel
theorem dX12_fault_1 : decode cX12_fault 1 = .ok (.iconst 0, 1) := by decide +kernel
theorem dX12_fault_2 : decode cX12_fault 2 = .ok (.putfield 175, 3) := by decide +kernel
theorem dX12_fault_5 : decode cX12_fault 5 = .ok (.iload_n 1, 1) := by decide +kernel
theorem dX12_fault_6 : decode cX12_fault 6 = .ok (.ifCond .ne 10, 3) := by decide +kernel
theorem dX12_fault_9 : decode cX12_fault 9 = .ok (.aload_n 0, 1) := by decide +kernel
theorem dX12_fault_10 : decode cX12_fault 10 = .ok (.getfield 181, 3) := by decide +kernel
theorem dX12_fault_13 : decode cX12_fault 13 = .ok (.goto 16, 3) := by decide +kernel
theorem dX12_fault_16 : decode cX12_fault 16 = .ok (.iload_n 1, 1) := by decide +kernel
theorem dX12_fault_17 : decode cX12_fault 17 = .ok (.iconst 1, 1) := by decide +kernel
theorem dX12_fault_18 : decode cX12_fault 18 = .ok (.if_icmp .ne 10, 3) := by decide +kernel
theorem dX12_fault_21 : decode cX12_fault 21 = .ok (.aload_n 0, 1) := by decide +kernel
theorem dX12_fault_22 : decode cX12_fault 22 = .ok (.getfield 16, 3) := by decide +kernel
theorem dX12_fault_25 : decode cX12_fault 25 = .ok (.goto 4, 3) := by decide +kernel
theorem dX12_fault_28 : decode cX12_fault 28 = .ok (.iconst (-1), 1) := by decide +kernel
theorem dX12_fault_29 : decode cX12_fault 29 = .ok (.ireturn, 1) := by decide +kernel
theorem dX12_named_0 : decode cX12_named 0 = .ok (.aload_n 0, 1) := by decide +kernel
theorem dX12_named_1 : decode cX12_named 1 = .ok (.iconst 0, 1) := by decide +kernel
theorem dX12_named_2 : decode cX12_named 2 = .ok (.putfield 175, 3) := by decide +kernel
theorem dX12_named_5 : decode cX12_named 5 = .ok (.iload_n 1, 1) := by decide +kernel
theorem dX12_named_6 : decode cX12_named 6 = .ok (.ifCond .ne 19, 3) := by decide +kernel
theorem dX12_named_9 : decode cX12_named 9 = .ok (.aload_n 0, 1) := by decide +kernel
theorem dX12_named_10 : decode cX12_named 10 = .ok (.getfield 27, 3) := by decide +kernel
theorem dX12_named_13 : decode cX12_named 13 = .ok (.iconst 0, 1) := by decide +kernel
theorem dX12_named_14 : decode cX12_named 14 = .ok (.aload_n 0, 1) := by decide +kernel
theorem dX12_named_15 : decode cX12_named 15 = .ok (.getfield 258, 3) := by decide +kernel
theorem dX12_named_18 : decode cX12_named 18 = .ok (.iload_n 2, 1) := by decide +kernel
theorem dX12_named_19 : decode cX12_named 19 = .ok (.invokestatic 283, 3) := by decide +kernel
theorem dX12_named_22 : decode cX12_named 22 = .ok (.goto 25, 3) := by decide +kernel
theorem dX12_named_25 : decode cX12_named 25 = .ok (.iload_n 1, 1) := by decide +kernel
theorem dX12_named_26 : decode cX12_named 26 = .ok (.iconst 1, 1) := by decide +kernel
theorem dX12_named_27 : decode cX12_named 27 = .ok (.if_icmp .ne 19, 3) := by decide +kernel
theorem dX12_named_30 : decode cX12_named 30 = .ok (.aload_n 0, 1) := by decide +kernel
theorem dX12_named_31 : decode cX12_named 31 = .ok (.getfield 33, 3) := by decide +kernel
theorem dX12_named_34 : decode cX12_named 34 = .ok (.iconst 0, 1) := by decide +kernel
theorem dX12_named_35 : decode cX12_named 35 = .ok (.aload_n 0, 1) := by decide +kernel
theorem dX12_named_36 : decode cX12_named 36 = .ok (.getfield 261, 3) := by decide +kernel
theorem dX12_named_39 : decode cX12_named 39 = .ok (.iload_n 2, 1) := by decide +kernel
theorem dX12_named_40 : decode cX12_named 40 = .ok (.invokestatic 283, 3) := by decide +kernel
theorem dX12_named_43 : decode cX12_named 43 = .ok (.goto 4, 3) := by decide +kernel
theorem dX12_named_46 : decode cX12_named 46 = .ok (.iconst (-1), 1) := by decide +kernel
theorem dX12_named_47 : decode cX12_named 47 = .ok (.ireturn, 1) := by decide +kernel
theorem dX12_rank_0 : decode cX12_rank 0 = .ok (.iload_n 0, 1) := by decide +kernel
theorem dX12_rank_1 : decode cX12_rank 1 = .ok (.bipush 13, 2) := by decide +kernel
theorem dX12_rank_3 : decode cX12_rank 3 = .ok (.if_icmp .lt 8, 3) := by decide +kernel
theorem dX12_rank_6 : decode cX12_rank 6 = .ok (.bipush 6, 2) := by decide +kernel
theorem dX12_rank_8 : decode cX12_rank 8 = .ok (.goto 50, 3) := by decide +kernel
theorem dX12_rank_11 : decode cX12_rank 11 = .ok (.iload_n 0, 1) := by decide +kernel
theorem dX12_rank_12 : decode cX12_rank 12 = .ok (.bipush 11, 2) := by decide +kernel
theorem dX12_rank_14 : decode cX12_rank 14 = .ok (.if_icmp .lt 7, 3) := by decide +kernel
theorem dX12_rank_17 : decode cX12_rank 17 = .ok (.iconst 5, 1) := by decide +kernel
theorem dX12_rank_18 : decode cX12_rank 18 = .ok (.goto 40, 3) := by decide +kernel
theorem dX12_rank_21 : decode cX12_rank 21 = .ok (.iload_n 0, 1) := by decide +kernel
theorem dX12_rank_22 : decode cX12_rank 22 = .ok (.iconst 5, 1) := by decide +kernel
theorem dX12_rank_23 : decode cX12_rank 23 = .ok (.if_icmp .lt 7, 3) := by decide +kernel
theorem dX12_rank_26 : decode cX12_rank 26 = .ok (.iconst 4, 1) := by decide +kernel
theorem dX12_rank_27 : decode cX12_rank 27 = .ok (.goto 31, 3) := by decide +kernel
theorem dX12_rank_30 : decode cX12_rank 30 = .ok (.iload_n 0, 1) := by decide +kernel
theorem dX12_rank_31 : decode cX12_rank 31 = .ok (.iconst 2, 1) := by decide +kernel
theorem dX12_rank_32 : decode cX12_rank 32 = .ok (.if_icmp .ne 7, 3) := by decide +kernel
theorem dX12_rank_35 : decode cX12_rank 35 = .ok (.iconst 3, 1) := by decide +kernel
theorem dX12_rank_36 : decode cX12_rank 36 = .ok (.goto 22, 3) := by decide +kernel
theorem dX12_rank_39 : decode cX12_rank 39 = .ok (.iload_n 0, 1) := by decide +kernel
theorem dX12_rank_40 : decode cX12_rank 40 = .ok (.iconst 3, 1) := by decide +kernel
theorem dX12_rank_41 : decode cX12_rank 41 = .ok (.if_icmp .ne 7, 3) := by decide +kernel
theorem dX12_rank_44 : decode cX12_rank 44 = .ok (.iconst 2, 1) := by decide +kernel
theorem dX12_rank_45 : decode cX12_rank 45 = .ok (.goto 13, 3) := by decide +kernel
theorem dX12_rank_48 : decode cX12_rank 48 = .ok (.iload_n 0, 1) := by decide +kernel
theorem dX12_rank_49 : decode cX12_rank 49 = .ok (.iconst 4, 1) := by decide +kernel
theorem dX12_rank_50 : decode cX12_rank 50 = .ok (.if_icmp .ne 7, 3) := by decide +kernel
theorem dX12_rank_53 : decode cX12_rank 53 = .ok (.iconst 1, 1) := by decide +kernel
theorem dX12_rank_54 : decode cX12_rank 54 = .ok (.goto 4, 3) := by decide +kernel
theorem dX12_rank_57 : decode cX12_rank 57 = .ok (.iconst 0, 1) := by decide +kernel
theorem dX12_rank_58 : decode cX12_rank 58 = .ok (.ireturn, 1) := by decide +kernel
theorem dX12_grown_0 : decode cX12_grown 0 = .ok (.aload_n 0, 1) := by decide +kernel
theorem dX12_grown_1 : decode cX12_grown 1 = .ok (.getfield 84, 3) := by decide +kernel
theorem dX12_grown_4 : decode cX12_grown 4 = .ok (.bipush 64, 2) := by decide +kernel
theorem dX12_grown_6 : decode cX12_grown 6 = .ok (.aload_n 0, 1) := by decide +kernel
theorem dX12_grown_7 : decode cX12_grown 7 = .ok (.getfield 252, 3) := by decide +kernel
theorem dX12_grown_10 : decode cX12_grown 10 = .ok (.iadd, 1) := by decide +kernel
theorem dX12_grown_11 : decode cX12_grown 11 = .ok (.iload_n 1, 1) := by decide +kernel
theorem dX12_grown_12 : decode cX12_grown 12 = .ok (.iastore, 1) := by decide +kernel
theorem dX12_grown_13 : decode cX12_grown 13 = .ok (.aload_n 0, 1) := by decide +kernel
theorem dX12_grown_14 : decode cX12_grown 14 = .ok (.getfield 87, 3) := by decide +kernel
theorem dX12_grown_17 : decode cX12_grown 17 = .ok (.bipush 64, 2) := by decide +kernel
theorem dX12_grown_19 : decode cX12_grown 19 = .ok (.aload_n 0, 1) := by decide +kernel
theorem dX12_grown_20 : decode cX12_grown 20 = .ok (.getfield 252, 3) := by decide +kernel
theorem dX12_grown_23 : decode cX12_grown 23 = .ok (.iadd, 1) := by decide +kernel
theorem dX12_grown_24 : decode cX12_grown 24 = .ok (.iload_n 2, 1) := by decide +kernel
theorem dX12_grown_25 : decode cX12_grown 25 = .ok (.iastore, 1) := by decide +kernel
theorem dX12_grown_26 : decode cX12_grown 26 = .ok (.aload_n 0, 1) := by decide +kernel
theorem dX12_grown_27 : decode cX12_grown 27 = .ok (.getfield 90, 3) := by decide +kernel
theorem dX12_grown_30 : decode cX12_grown 30 = .ok (.bipush 64, 2) := by decide +kernel
theorem dX12_grown_32 : decode cX12_grown 32 = .ok (.aload_n 0, 1) := by decide +kernel
theorem dX12_grown_33 : decode cX12_grown 33 = .ok (.getfield 252, 3) := by decide +kernel
theorem dX12_grown_36 : decode cX12_grown 36 = .ok (.iadd, 1) := by decide +kernel
theorem dX12_grown_37 : decode cX12_grown 37 = .ok (.iload_n 3, 1) := by decide +kernel
theorem dX12_grown_38 : decode cX12_grown 38 = .ok (.iastore, 1) := by decide +kernel
theorem dX12_grown_39 : decode cX12_grown 39 = .ok (.aload_n 0, 1) := by decide +kernel
theorem dX12_grown_40 : decode cX12_grown 40 = .ok (.getfield 96, 3) := by decide +kernel
theorem dX12_grown_43 : decode cX12_grown 43 = .ok (.aload_n 0, 1) := by decide +kernel
theorem dX12_grown_44 : decode cX12_grown 44 = .ok (.getfield 319, 3) := by decide +kernel
theorem dX12_grown_47 : decode cX12_grown 47 = .ok (.aload_n 0, 1) := by decide +kernel
theorem dX12_grown_48 : decode cX12_grown 48 = .ok (.getfield 252, 3) := by decide +kernel
theorem dX12_grown_51 : decode cX12_grown 51 = .ok (.iastore, 1) := by decide +kernel
theorem dX12_grown_52 : decode cX12_grown 52 = .ok (.aload_n 0, 1) := by decide +kernel
theorem dX12_grown_53 : decode cX12_grown 53 = .ok (.dup, 1) := by decide +kernel
theorem dX12_grown_54 : decode cX12_grown 54 = .ok (.getfield 319, 3) := by decide +kernel
