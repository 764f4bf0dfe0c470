theorem dX4_pair_77 : decode cX4_pair 77 = .ok (.iload 5, 2) := by decide +kernel
theorem dX4_pair_79 : decode cX4_pair 79 = .ok (.iload_n 3, 1) := by decide +kernel
theorem dX4_pair_80 : decode cX4_pair 80 = .ok (.if_icmp .ge 41, 3) := by decide +kernel
theorem dX4_pair_83 : decode cX4_pair 83 = .ok (.aload_n 0, 1) := by decide +kernel
theorem dX4_pair_84 : decode cX4_pair 84 = .ok (.getfield 24, 3) := by decide +kernel
theorem dX4_pair_87 : decode cX4_pair 87 = .ok (.aload_n 1, 1) := by decide +kernel
theorem dX4_pair_88 : decode cX4_pair 88 = .ok (.getfield 75, 3) := by decide +kernel
theorem dX4_pair_91 : decode cX4_pair 91 = .ok (.sipush 256, 3) := by decide +kernel
theorem dX4_pair_94 : decode cX4_pair 94 = .ok (.imul, 1) := by decide +kernel
theorem dX4_pair_95 : decode cX4_pair 95 = .ok (.iload 5, 2) := by decide +kernel
theorem dX4_pair_97 : decode cX4_pair 97 = .ok (.iadd, 1) := by decide +kernel
theorem dX4_pair_98 : decode cX4_pair 98 = .ok (.iload 5, 2) := by decide +kernel
theorem dX4_pair_100 : decode cX4_pair 100 = .ok (.invokestatic 70, 3) := by decide +kernel
theorem dX4_pair_103 : decode cX4_pair 103 = .ok (.iload 4, 2) := by decide +kernel
theorem dX4_pair_105 : decode cX4_pair 105 = .ok (.if_icmp .ne 7, 3) := by decide +kernel
theorem dX4_pair_108 : decode cX4_pair 108 = .ok (.iconst 0, 1) := by decide +kernel
theorem dX4_pair_109 : decode cX4_pair 109 = .ok (.goto 5, 3) := by decide +kernel
theorem dX4_pair_112 : decode cX4_pair 112 = .ok (.ldc 89, 2) := by decide +kernel
theorem dX4_pair_114 : decode cX4_pair 114 = .ok (.iastore, 1) := by decide +kernel
theorem dX4_pair_115 : decode cX4_pair 115 = .ok (.iinc 5 1, 3) := by decide +kernel
theorem dX4_pair_118 : decode cX4_pair 118 = .ok (.goto (-41), 3) := by decide +kernel
theorem dX4_pair_121 : decode cX4_pair 121 = .ok (.aload_n 1, 1) := by decide +kernel
theorem dX4_pair_122 : decode cX4_pair 122 = .ok (.getfield 75, 3) := by decide +kernel
theorem dX4_pair_125 : decode cX4_pair 125 = .ok (.iconst 1, 1) := by decide +kernel
theorem dX4_pair_126 : decode cX4_pair 126 = .ok (.isub, 1) := by decide +kernel
theorem dX4_pair_127 : decode cX4_pair 127 = .ok (.istore 5, 2) := by decide +kernel
theorem dX4_pair_129 : decode cX4_pair 129 = .ok (.iload 5, 2) := by decide +kernel
theorem dX4_pair_131 : decode cX4_pair 131 = .ok (.ifCond .lt 47, 3) := by decide +kernel
theorem dX4_pair_134 : decode cX4_pair 134 = .ok (.iconst 0, 1) := by decide +kernel
theorem dX4_pair_135 : decode cX4_pair 135 = .ok (.istore 6, 2) := by decide +kernel
theorem dX4_pair_137 : decode cX4_pair 137 = .ok (.iload 6, 2) := by decide +kernel
theorem dX4_pair_139 : decode cX4_pair 139 = .ok (.iload_n 3, 1) := by decide +kernel
theorem dX4_pair_140 : decode cX4_pair 140 = .ok (.if_icmp .ge 32, 3) := by decide +kernel
theorem dX4_pair_143 : decode cX4_pair 143 = .ok (.aload_n 0, 1) := by decide +kernel
theorem dX4_pair_144 : decode cX4_pair 144 = .ok (.getfield 24, 3) := by decide +kernel
theorem dX4_pair_147 : decode cX4_pair 147 = .ok (.iload 5, 2) := by decide +kernel
theorem dX4_pair_149 : decode cX4_pair 149 = .ok (.sipush 256, 3) := by decide +kernel
theorem dX4_pair_152 : decode cX4_pair 152 = .ok (.imul, 1) := by decide +kernel
theorem dX4_pair_153 : decode cX4_pair 153 = .ok (.iload 6, 2) := by decide +kernel
theorem dX4_pair_155 : decode cX4_pair 155 = .ok (.iadd, 1) := by decide +kernel
theorem dX4_pair_156 : decode cX4_pair 156 = .ok (.aload_n 0, 1) := by decide +kernel
theorem dX4_pair_157 : decode cX4_pair 157 = .ok (.aload_n 1, 1) := by decide +kernel
theorem dX4_pair_158 : decode cX4_pair 158 = .ok (.iload 5, 2) := by decide +kernel
theorem dX4_pair_160 : decode cX4_pair 160 = .ok (.iload 6, 2) := by decide +kernel
theorem dX4_pair_162 : decode cX4_pair 162 = .ok (.invokevirtual 90, 3) := by decide +kernel
theorem dX4_pair_165 : decode cX4_pair 165 = .ok (.iastore, 1) := by decide +kernel
theorem dX4_pair_166 : decode cX4_pair 166 = .ok (.iinc 6 1, 3) := by decide +kernel
theorem dX4_pair_169 : decode cX4_pair 169 = .ok (.goto (-32), 3) := by decide +kernel
theorem dX4_pair_172 : decode cX4_pair 172 = .ok (.iinc 5 (-1), 3) := by decide +kernel
theorem dX4_pair_175 : decode cX4_pair 175 = .ok (.goto (-46), 3) := by decide +kernel
theorem dX4_pair_178 : decode cX4_pair 178 = .ok (.aload_n 0, 1) := by decide +kernel
theorem dX4_pair_179 : decode cX4_pair 179 = .ok (.aload_n 0, 1) := by decide +kernel
theorem dX4_pair_180 : decode cX4_pair 180 = .ok (.getfield 24, 3) := by decide +kernel
theorem dX4_pair_183 : decode cX4_pair 183 = .ok (.iconst 0, 1) := by decide +kernel
theorem dX4_pair_184 : decode cX4_pair 184 = .ok (.iaload, 1) := by decide +kernel
theorem dX4_pair_185 : decode cX4_pair 185 = .ok (.putfield 93, 3) := by decide +kernel
theorem dX4_pair_188 : decode cX4_pair 188 = .ok (.aload_n 0, 1) := by decide +kernel
theorem dX4_pair_189 : decode cX4_pair 189 = .ok (.aload_n 1, 1) := by decide +kernel
theorem dX4_pair_190 : decode cX4_pair 190 = .ok (.invokevirtual 96, 3) := by decide +kernel
theorem dX4_pair_193 : decode cX4_pair 193 = .ok (.return_, 1) := by decide +kernel
theorem dX4_leastFrom_0 : decode cX4_leastFrom 0 = .ok (.aload_n 0, 1) := by decide +kernel
theorem dX4_leastFrom_1 : decode cX4_leastFrom 1 = .ok (.getfield 24, 3) := by decide +kernel
theorem dX4_leastFrom_4 : decode cX4_leastFrom 4 = .ok (.iload_n 2, 1) := by decide +kernel
theorem dX4_leastFrom_5 : decode cX4_leastFrom 5 = .ok (.iconst 1, 1) := by decide +kernel
theorem dX4_leastFrom_6 : decode cX4_leastFrom 6 = .ok (.iadd, 1) := by decide +kernel
theorem dX4_leastFrom_7 : decode cX4_leastFrom 7 = .ok (.sipush 256, 3) := by decide +kernel
theorem dX4_leastFrom_10 : decode cX4_leastFrom 10 = .ok (.imul, 1) := by decide +kernel
theorem dX4_leastFrom_11 : decode cX4_leastFrom 11 = .ok (.iload_n 3, 1) := by decide +kernel
theorem dX4_leastFrom_12 : decode cX4_leastFrom 12 = .ok (.iadd, 1) := by decide +kernel
theorem dX4_leastFrom_13 : decode cX4_leastFrom 13 = .ok (.iaload, 1) := by decide +kernel
theorem dX4_leastFrom_14 : decode cX4_leastFrom 14 = .ok (.istore 4, 2) := by decide +kernel
theorem dX4_leastFrom_16 : decode cX4_leastFrom 16 = .ok (.iconst 0, 1) := by decide +kernel
theorem dX4_leastFrom_17 : decode cX4_leastFrom 17 = .ok (.istore 5, 2) := by decide +kernel
theorem dX4_leastFrom_19 : decode cX4_leastFrom 19 = .ok (.iload 5, 2) := by decide +kernel
theorem dX4_leastFrom_21 : decode cX4_leastFrom 21 = .ok (.aload_n 1, 1) := by decide +kernel
theorem dX4_leastFrom_22 : decode cX4_leastFrom 22 = .ok (.getfield 79, 3) := by decide +kernel
theorem dX4_leastFrom_25 : decode cX4_leastFrom 25 = .ok (.if_icmp .ge 33, 3) := by decide +kernel
theorem dX4_leastFrom_28 : decode cX4_leastFrom 28 = .ok (.iload_n 3, 1) := by decide +kernel
theorem dX4_leastFrom_29 : decode cX4_leastFrom 29 = .ok (.iload 5, 2) := by decide +kernel
theorem dX4_leastFrom_31 : decode cX4_leastFrom 31 = .ok (.ishr, 1) := by decide +kernel
theorem dX4_leastFrom_32 : decode cX4_leastFrom 32 = .ok (.iconst 1, 1) := by decide +kernel
theorem dX4_leastFrom_33 : decode cX4_leastFrom 33 = .ok (.iand, 1) := by decide +kernel
theorem dX4_leastFrom_34 : decode cX4_leastFrom 34 = .ok (.ifCond .ne 18, 3) := by decide +kernel
theorem dX4_leastFrom_37 : decode cX4_leastFrom 37 = .ok (.iload 4, 2) := by decide +kernel
theorem dX4_leastFrom_39 : decode cX4_leastFrom 39 = .ok (.aload_n 0, 1) := by decide +kernel
theorem dX4_leastFrom_40 : decode cX4_leastFrom 40 = .ok (.iload_n 2, 1) := by decide +kernel
theorem dX4_leastFrom_41 : decode cX4_leastFrom 41 = .ok (.iload_n 3, 1) := by decide +kernel
theorem dX4_leastFrom_42 : decode cX4_leastFrom 42 = .ok (.iload 5, 2) := by decide +kernel
theorem dX4_leastFrom_44 : decode cX4_leastFrom 44 = .ok (.invokevirtual 100, 3) := by decide +kernel
theorem dX4_leastFrom_47 : decode cX4_leastFrom 47 = .ok (.invokestatic 86, 3) := by decide +kernel
theorem dX4_leastFrom_50 : decode cX4_leastFrom 50 = .ok (.istore 4, 2) := by decide +kernel
theorem dX4_leastFrom_52 : decode cX4_leastFrom 52 = .ok (.iinc 5 1, 3) := by decide +kernel
theorem dX4_leastFrom_55 : decode cX4_leastFrom 55 = .ok (.goto (-36), 3) := by decide +kernel
theorem dX4_leastFrom_58 : decode cX4_leastFrom 58 = .ok (.iload 4, 2) := by decide +kernel
theorem dX4_leastFrom_60 : decode cX4_leastFrom 60 = .ok (.ldc 89, 2) := by decide +kernel
theorem dX4_leastFrom_62 : decode cX4_leastFrom 62 = .ok (.invokestatic 86, 3) := by decide +kernel
theorem dX4_leastFrom_65 : decode cX4_leastFrom 65 = .ok (.ireturn, 1) := by decide +kernel
theorem dX4_farWith_0 : decode cX4_farWith 0 = .ok (.aload_n 0, 1) := by decide +kernel
theorem dX4_farWith_1 : decode cX4_farWith 1 = .ok (.getfield 21, 3) := by decide +kernel
theorem dX4_farWith_4 : decode cX4_farWith 4 = .ok (.iload_n 1, 1) := by decide +kernel
theorem dX4_farWith_5 : decode cX4_farWith 5 = .ok (.bipush 8, 2) := by decide +kernel
theorem dX4_farWith_7 : decode cX4_farWith 7 = .ok (.imul, 1) := by decide +kernel
theorem dX4_farWith_8 : decode cX4_farWith 8 = .ok (.iload_n 3, 1) := by decide +kernel
theorem dX4_farWith_9 : decode cX4_farWith 9 = .ok (.iadd, 1) := by decide +kernel
theorem dX4_farWith_10 : decode cX4_farWith 10 = .ok (.iaload, 1) := by decide +kernel
theorem dX4_farWith_11 : decode cX4_farWith 11 = .ok (.aload_n 0, 1) := by decide +kernel
theorem dX4_farWith_12 : decode cX4_farWith 12 = .ok (.getfield 24, 3) := by decide +kernel
theorem dX4_farWith_15 : decode cX4_farWith 15 = .ok (.iload_n 1, 1) := by decide +kernel
theorem dX4_farWith_16 : decode cX4_farWith 16 = .ok (.iconst 1, 1) := by decide +kernel
theorem dX4_farWith_17 : decode cX4_farWith 17 = .ok (.iadd, 1) := by decide +kernel
theorem dX4_farWith_18 : decode cX4_farWith 18 = .ok (.sipush 256, 3) := by decide +kernel
theorem dX4_farWith_21 : decode cX4_farWith 21 = .ok (.imul, 1) := by decide +kernel
theorem dX4_farWith_22 : decode cX4_farWith 22 = .ok (.iload_n 2, 1) := by decide +kernel
theorem dX4_farWith_23 : decode cX4_farWith 23 = .ok (.iconst 1, 1) := by decide +kernel
theorem dX4_farWith_24 : decode cX4_farWith 24 = .ok (.iload_n 3, 1) := by decide +kernel
theorem dX4_farWith_25 : decode cX4_farWith 25 = .ok (.ishl, 1) := by decide +kernel
theorem dX4_farWith_26 : decode cX4_farWith 26 = .ok (.ior, 1) := by decide +kernel
theorem dX4_farWith_27 : decode cX4_farWith 27 = .ok (.iadd, 1) := by decide +kernel
theorem dX4_farWith_28 : decode cX4_farWith 28 = .ok (.iaload, 1) := by decide +kernel
theorem dX4_farWith_29 : decode cX4_farWith 29 = .ok (.iadd, 1) := by decide +kernel
theorem dX4_farWith_30 : decode cX4_farWith 30 = .ok (.ireturn, 1) := by decide +kernel
theorem dX4_choosePairs_0 : decode cX4_choosePairs 0 = .ok (.aload_n 0, 1) := by decide +kernel
theorem dX4_choosePairs_1 : decode cX4_choosePairs 1 = .ok (.getfield 9, 3) := by decide +kernel
theorem dX4_choosePairs_4 : decode cX4_choosePairs 4 = .ok (.bipush (-2), 2) := by decide +kernel
theorem dX4_choosePairs_6 : decode cX4_choosePairs 6 = .ok (.invokestatic 103, 3) := by decide +kernel
theorem dX4_choosePairs_9 : decode cX4_choosePairs 9 = .ok (.iconst 0, 1) := by decide +kernel
theorem dX4_choosePairs_10 : decode cX4_choosePairs 10 = .ok (.istore_n 2, 1) := by decide +kernel
theorem dX4_choosePairs_11 : decode cX4_choosePairs 11 = .ok (.iconst 0, 1) := by decide +kernel
theorem dX4_choosePairs_12 : decode cX4_choosePairs 12 = .ok (.istore_n 3, 1) := by decide +kernel
theorem dX4_choosePairs_13 : decode cX4_choosePairs 13 = .ok (.iload_n 3, 1) := by decide +kernel
theorem dX4_choosePairs_14 : decode cX4_choosePairs 14 = .ok (.aload_n 1, 1) := by decide +kernel
theorem dX4_choosePairs_15 : decode cX4_choosePairs 15 = .ok (.getfield 75, 3) := by decide +kernel
theorem dX4_choosePairs_18 : decode cX4_choosePairs 18 = .ok (.if_icmp .ge 89, 3) := by decide +kernel
theorem dX4_choosePairs_21 : decode cX4_choosePairs 21 = .ok (.iconst 0, 1) := by decide +kernel
theorem dX4_choosePairs_22 : decode cX4_choosePairs 22 = .ok (.istore 4, 2) := by decide +kernel
theorem dX4_choosePairs_24 : decode cX4_choosePairs 24 = .ok (.iload 4, 2) := by decide +kernel
theorem dX4_choosePairs_26 : decode cX4_choosePairs 26 = .ok (.aload_n 1, 1) := by decide +kernel
theorem dX4_choosePairs_27 : decode cX4_choosePairs 27 = .ok (.getfield 79, 3) := by decide +kernel
theorem dX4_choosePairs_30 : decode cX4_choosePairs 30 = .ok (.if_icmp .ge 71, 3) := by decide +kernel
theorem dX4_choosePairs_33 : decode cX4_choosePairs 33 = .ok (.iload_n 2, 1) := by decide +kernel
theorem dX4_choosePairs_34 : decode cX4_choosePairs 34 = .ok (.iload 4, 2) := by decide +kernel
theorem dX4_choosePairs_36 : decode cX4_choosePairs 36 = .ok (.ishr, 1) := by decide +kernel
theorem dX4_choosePairs_37 : decode cX4_choosePairs 37 = .ok (.iconst 1, 1) := by decide +kernel
theorem dX4_choosePairs_38 : decode cX4_choosePairs 38 = .ok (.iand, 1) := by decide +kernel
theorem dX4_choosePairs_39 : decode cX4_choosePairs 39 = .ok (.ifCond .ne 7, 3) := by decide +kernel
theorem dX4_choosePairs_42 : decode cX4_choosePairs 42 = .ok (.iconst 1, 1) := by decide +kernel
theorem dX4_choosePairs_43 : decode cX4_choosePairs 43 = .ok (.goto 4, 3) := by decide +kernel
theorem dX4_choosePairs_46 : decode cX4_choosePairs 46 = .ok (.iconst 0, 1) := by decide +kernel
theorem dX4_choosePairs_47 : decode cX4_choosePairs 47 = .ok (.istore 5, 2) := by decide +kernel
theorem dX4_choosePairs_49 : decode cX4_choosePairs 49 = .ok (.iload 5, 2) := by decide +kernel
theorem dX4_choosePairs_51 : decode cX4_choosePairs 51 = .ok (.ifCond .eq 44, 3) := by decide +kernel
theorem dX4_choosePairs_54 : decode cX4_choosePairs 54 = .ok (.aload_n 0, 1) := by decide +kernel
theorem dX4_choosePairs_55 : decode cX4_choosePairs 55 = .ok (.iload_n 3, 1) := by decide +kernel
theorem dX4_choosePairs_56 : decode cX4_choosePairs 56 = .ok (.iload_n 2, 1) := by decide +kernel
theorem dX4_choosePairs_57 : decode cX4_choosePairs 57 = .ok (.iload 4, 2) := by decide +kernel
theorem dX4_choosePairs_59 : decode cX4_choosePairs 59 = .ok (.invokevirtual 100, 3) := by decide +kernel
theorem dX4_choosePairs_62 : decode cX4_choosePairs 62 = .ok (.aload_n 0, 1) := by decide +kernel
theorem dX4_choosePairs_63 : decode cX4_choosePairs 63 = .ok (.getfield 24, 3) := by decide +kernel
theorem dX4_choosePairs_66 : decode cX4_choosePairs 66 = .ok (.iload_n 3, 1) := by decide +kernel
theorem dX4_choosePairs_67 : decode cX4_choosePairs 67 = .ok (.sipush 256, 3) := by decide +kernel
theorem dX4_choosePairs_70 : decode cX4_choosePairs 70 = .ok (.imul, 1) := by decide +kernel
theorem dX4_choosePairs_71 : decode cX4_choosePairs 71 = .ok (.iload_n 2, 1) := by decide +kernel
theorem dX4_choosePairs_72 : decode cX4_choosePairs 72 = .ok (.iadd, 1) := by decide +kernel
theorem dX4_choosePairs_73 : decode cX4_choosePairs 73 = .ok (.iaload, 1) := by decide +kernel
theorem dX4_choosePairs_74 : decode cX4_choosePairs 74 = .ok (.if_icmp .ne 21, 3) := by decide +kernel
theorem dX4_choosePairs_77 : decode cX4_choosePairs 77 = .ok (.aload_n 0, 1) := by decide +kernel
theorem dX4_choosePairs_78 : decode cX4_choosePairs 78 = .ok (.getfield 9, 3) := by decide +kernel
theorem dX4_choosePairs_81 : decode cX4_choosePairs 81 = .ok (.iload_n 3, 1) := by decide +kernel
theorem dX4_choosePairs_82 : decode cX4_choosePairs 82 = .ok (.iload 4, 2) := by decide +kernel
theorem dX4_choosePairs_84 : decode cX4_choosePairs 84 = .ok (.iastore, 1) := by decide +kernel
theorem dX4_choosePairs_85 : decode cX4_choosePairs 85 = .ok (.iload_n 2, 1) := by decide +kernel
theorem dX4_choosePairs_86 : decode cX4_choosePairs 86 = .ok (.iconst 1, 1) := by decide +kernel
theorem dX4_choosePairs_87 : decode cX4_choosePairs 87 = .ok (.iload 4, 2) := by decide +kernel
theorem dX4_choosePairs_89 : decode cX4_choosePairs 89 = .ok (.ishl, 1) := by decide +kernel
theorem dX4_choosePairs_90 : decode cX4_choosePairs 90 = .ok (.ior, 1) := by decide +kernel
theorem dX4_choosePairs_91 : decode cX4_choosePairs 91 = .ok (.istore_n 2, 1) := by decide +kernel
theorem dX4_choosePairs_92 : decode cX4_choosePairs 92 = .ok (.goto 9, 3) := by decide +kernel
theorem dX4_choosePairs_95 : decode cX4_choosePairs 95 = .ok (.iinc 4 1, 3) := by decide +kernel
theorem dX4_choosePairs_98 : decode cX4_choosePairs 98 = .ok (.goto (-74), 3) := by decide +kernel
theorem dX4_choosePairs_101 : decode cX4_choosePairs 101 = .ok (.iinc 3 1, 3) := by decide +kernel
theorem dX4_choosePairs_104 : decode cX4_choosePairs 104 = .ok (.goto (-91), 3) := by decide +kernel
theorem dX4_choosePairs_107 : decode cX4_choosePairs 107 = .ok (.return_, 1) := by decide +kernel
theorem dX4_leastJoining_0 : decode cX4_leastJoining 0 = .ok (.iconst 0, 1) := by decide +kernel
theorem dX4_leastJoining_1 : decode cX4_leastJoining 1 = .ok (.istore_n 3, 1) := by decide +kernel
theorem dX4_leastJoining_2 : decode cX4_leastJoining 2 = .ok (.iload_n 3, 1) := by decide +kernel
theorem dX4_leastJoining_3 : decode cX4_leastJoining 3 = .ok (.aload_n 1, 1) := by decide +kernel
theorem dX4_leastJoining_4 : decode cX4_leastJoining 4 = .ok (.getfield 75, 3) := by decide +kernel
theorem dX4_leastJoining_7 : decode cX4_leastJoining 7 = .ok (.if_icmp .ge 32, 3) := by decide +kernel
theorem dX4_leastJoining_10 : decode cX4_leastJoining 10 = .ok (.aload_n 0, 1) := by decide +kernel
theorem dX4_leastJoining_11 : decode cX4_leastJoining 11 = .ok (.getfield 27, 3) := by decide +kernel
theorem dX4_leastJoining_14 : decode cX4_leastJoining 14 = .ok (.iload_n 3, 1) := by decide +kernel
theorem dX4_leastJoining_15 : decode cX4_leastJoining 15 = .ok (.iload_n 3, 1) := by decide +kernel
theorem dX4_leastJoining_16 : decode cX4_leastJoining 16 = .ok (.ifCond .ne 7, 3) := by decide +kernel
theorem dX4_leastJoining_19 : decode cX4_leastJoining 19 = .ok (.iconst 0, 1) := by decide +kernel
theorem dX4_leastJoining_20 : decode cX4_leastJoining 20 = .ok (.goto 5, 3) := by decide +kernel
theorem dX4_leastJoining_23 : decode cX4_leastJoining 23 = .ok (.ldc 89, 2) := by decide +kernel
theorem dX4_leastJoining_25 : decode cX4_leastJoining 25 = .ok (.iastore, 1) := by decide +kernel
theorem dX4_leastJoining_26 : decode cX4_leastJoining 26 = .ok (.aload_n 0, 1) := by decide +kernel
theorem dX4_leastJoining_27 : decode cX4_leastJoining 27 = .ok (.getfield 30, 3) := by decide +kernel
theorem dX4_leastJoining_30 : decode cX4_leastJoining 30 = .ok (.iload_n 3, 1) := by decide +kernel
theorem dX4_leastJoining_31 : decode cX4_leastJoining 31 = .ok (.iconst 0, 1) := by decide +kernel
theorem dX4_leastJoining_32 : decode cX4_leastJoining 32 = .ok (.bastore, 1) := by decide +kernel
theorem dX4_leastJoining_33 : decode cX4_leastJoining 33 = .ok (.iinc 3 1, 3) := by decide +kernel
theorem dX4_leastJoining_36 : decode cX4_leastJoining 36 = .ok (.goto (-34), 3) := by decide +kernel
theorem dX4_leastJoining_39 : decode cX4_leastJoining 39 = .ok (.iconst 0, 1) := by decide +kernel
theorem dX4_leastJoining_40 : decode cX4_leastJoining 40 = .ok (.istore_n 3, 1) := by decide +kernel
theorem dX4_leastJoining_41 : decode cX4_leastJoining 41 = .ok (.iconst 0, 1) := by decide +kernel
theorem dX4_leastJoining_42 : decode cX4_leastJoining 42 = .ok (.istore 4, 2) := by decide +kernel
theorem dX4_leastJoining_44 : decode cX4_leastJoining 44 = .ok (.iload 4, 2) := by decide +kernel
theorem dX4_leastJoining_46 : decode cX4_leastJoining 46 = .ok (.aload_n 1, 1) := by decide +kernel
theorem dX4_leastJoining_47 : decode cX4_leastJoining 47 = .ok (.getfield 75, 3) := by decide +kernel
theorem dX4_leastJoining_50 : decode cX4_leastJoining 50 = .ok (.if_icmp .ge 99, 3) := by decide +kernel
theorem dX4_leastJoining_53 : decode cX4_leastJoining 53 = .ok (.iconst (-1), 1) := by decide +kernel
theorem dX4_leastJoining_54 : decode cX4_leastJoining 54 = .ok (.istore 5, 2) := by decide +kernel
theorem dX4_leastJoining_56 : decode cX4_leastJoining 56 = .ok (.iconst 0, 1) := by decide +kernel
theorem dX4_leastJoining_57 : decode cX4_leastJoining 57 = .ok (.istore 6, 2) := by decide +kernel
theorem dX4_leastJoining_59 : decode cX4_leastJoining 59 = .ok (.iload 6, 2) := by decide +kernel
theorem dX4_leastJoining_61 : decode cX4_leastJoining 61 = .ok (.aload_n 1, 1) := by decide +kernel
theorem dX4_leastJoining_62 : decode cX4_leastJoining 62 = .ok (.getfield 75, 3) := by decide +kernel
theorem dX4_leastJoining_65 : decode cX4_leastJoining 65 = .ok (.if_icmp .ge 46, 3) := by decide +kernel
theorem dX4_leastJoining_68 : decode cX4_leastJoining 68 = .ok (.aload_n 0, 1) := by decide +kernel
theorem dX4_leastJoining_69 : decode cX4_leastJoining 69 = .ok (.getfield 30, 3) := by decide +kernel
theorem dX4_leastJoining_72 : decode cX4_leastJoining 72 = .ok (.iload 6, 2) := by decide +kernel
theorem dX4_leastJoining_74 : decode cX4_leastJoining 74 = .ok (.baload, 1) := by decide +kernel
theorem dX4_leastJoining_75 : decode cX4_leastJoining 75 = .ok (.ifCond .ne 30, 3) := by decide +kernel
theorem dX4_leastJoining_78 : decode cX4_leastJoining 78 = .ok (.iload 5, 2) := by decide +kernel
theorem dX4_leastJoining_80 : decode cX4_leastJoining 80 = .ok (.iconst (-1), 1) := by decide +kernel
theorem dX4_leastJoining_81 : decode cX4_leastJoining 81 = .ok (.if_icmp .eq 20, 3) := by decide +kernel
theorem dX4_leastJoining_84 : decode cX4_leastJoining 84 = .ok (.aload_n 0, 1) := by decide +kernel
theorem dX4_leastJoining_85 : decode cX4_leastJoining 85 = .ok (.getfield 27, 3) := by decide +kernel
theorem dX4_leastJoining_88 : decode cX4_leastJoining 88 = .ok (.iload 6, 2) := by decide +kernel
theorem dX4_leastJoining_90 : decode cX4_leastJoining 90 = .ok (.iaload, 1) := by decide +kernel
theorem dX4_leastJoining_91 : decode cX4_leastJoining 91 = .ok (.aload_n 0, 1) := by decide +kernel
theorem dX4_leastJoining_92 : decode cX4_leastJoining 92 = .ok (.getfield 27, 3) := by decide +kernel
theorem dX4_leastJoining_95 : decode cX4_leastJoining 95 = .ok (.iload 5, 2) := by decide +kernel
theorem dX4_leastJoining_97 : decode cX4_leastJoining 97 = .ok (.iaload, 1) := by decide +kernel
theorem dX4_leastJoining_98 : decode cX4_leastJoining 98 = .ok (.if_icmp .ge 7, 3) := by decide +kernel
theorem dX4_leastJoining_101 : decode cX4_leastJoining 101 = .ok (.iload 6, 2) := by decide +kernel
theorem dX4_leastJoining_103 : decode cX4_leastJoining 103 = .ok (.istore 5, 2) := by decide +kernel
theorem dX4_leastJoining_105 : decode cX4_leastJoining 105 = .ok (.iinc 6 1, 3) := by decide +kernel
theorem dX4_leastJoining_108 : decode cX4_leastJoining 108 = .ok (.goto (-49), 3) := by decide +kernel
theorem dX4_leastJoining_111 : decode cX4_leastJoining 111 = .ok (.iload 5, 2) := by decide +kernel
theorem dX4_leastJoining_113 : decode cX4_leastJoining 113 = .ok (.iconst (-1), 1) := by decide +kernel
theorem dX4_leastJoining_114 : decode cX4_leastJoining 114 = .ok (.if_icmp .eq 29, 3) := by decide +kernel
theorem dX4_leastJoining_117 : decode cX4_leastJoining 117 = .ok (.aload_n 0, 1) := by decide +kernel
theorem dX4_leastJoining_118 : decode cX4_leastJoining 118 = .ok (.getfield 30, 3) := by decide +kernel
theorem dX4_leastJoining_121 : decode cX4_leastJoining 121 = .ok (.iload 5, 2) := by decide +kernel
theorem dX4_leastJoining_123 : decode cX4_leastJoining 123 = .ok (.iconst 1, 1) := by decide +kernel
theorem dX4_leastJoining_124 : decode cX4_leastJoining 124 = .ok (.bastore, 1) := by decide +kernel
theorem dX4_leastJoining_125 : decode cX4_leastJoining 125 = .ok (.iload_n 3, 1) := by decide +kernel
theorem dX4_leastJoining_126 : decode cX4_leastJoining 126 = .ok (.aload_n 0, 1) := by decide +kernel
theorem dX4_leastJoining_127 : decode cX4_leastJoining 127 = .ok (.getfield 27, 3) := by decide +kernel
theorem dX4_leastJoining_130 : decode cX4_leastJoining 130 = .ok (.iload 5, 2) := by decide +kernel
theorem dX4_leastJoining_132 : decode cX4_leastJoining 132 = .ok (.iaload, 1) := by decide +kernel
theorem dX4_leastJoining_133 : decode cX4_leastJoining 133 = .ok (.iadd, 1) := by decide +kernel
theorem dX4_leastJoining_134 : decode cX4_leastJoining 134 = .ok (.istore_n 3, 1) := by decide +kernel
theorem dX4_leastJoining_135 : decode cX4_leastJoining 135 = .ok (.aload_n 0, 1) := by decide +kernel
theorem dX4_leastJoining_136 : decode cX4_leastJoining 136 = .ok (.aload_n 1, 1) := by decide +kernel
theorem dX4_leastJoining_137 : decode cX4_leastJoining 137 = .ok (.aload_n 2, 1) := by decide +kernel
theorem dX4_leastJoining_138 : decode cX4_leastJoining 138 = .ok (.iload 5, 2) := by decide +kernel
theorem dX4_leastJoining_140 : decode cX4_leastJoining 140 = .ok (.invokevirtual 109, 3) := by decide +kernel
theorem dX4_leastJoining_143 : decode cX4_leastJoining 143 = .ok (.iinc 4 1, 3) := by decide +kernel
theorem dX4_leastJoining_146 : decode cX4_leastJoining 146 = .ok (.goto (-102), 3) := by decide +kernel
theorem dX4_leastJoining_149 : decode cX4_leastJoining 149 = .ok (.iload_n 3, 1) := by decide +kernel
theorem dX4_leastJoining_150 : decode cX4_leastJoining 150 = .ok (.ireturn, 1) := by decide +kernel
theorem dX4_reachFrom_0 : decode cX4_reachFrom 0 = .ok (.iconst 0, 1) := by decide +kernel
theorem dX4_reachFrom_1 : decode cX4_reachFrom 1 = .ok (.istore 4, 2) := by decide +kernel
theorem dX4_reachFrom_3 : decode cX4_reachFrom 3 = .ok (.iload 4, 2) := by decide +kernel
theorem dX4_reachFrom_5 : decode cX4_reachFrom 5 = .ok (.aload_n 1, 1) := by decide +kernel
theorem dX4_reachFrom_6 : decode cX4_reachFrom 6 = .ok (.getfield 75, 3) := by decide +kernel
theorem dX4_reachFrom_9 : decode cX4_reachFrom 9 = .ok (.if_icmp .ge 43, 3) := by decide +kernel
theorem dX4_reachFrom_12 : decode cX4_reachFrom 12 = .ok (.aload_n 0, 1) := by decide +kernel
theorem dX4_reachFrom_13 : decode cX4_reachFrom 13 = .ok (.getfield 30, 3) := by decide +kernel
theorem dX4_reachFrom_16 : decode cX4_reachFrom 16 = .ok (.iload 4, 2) := by decide +kernel
theorem dX4_reachFrom_18 : decode cX4_reachFrom 18 = .ok (.baload, 1) := by decide +kernel
theorem dX4_reachFrom_19 : decode cX4_reachFrom 19 = .ok (.ifCond .ne 27, 3) := by decide +kernel
theorem dX4_reachFrom_22 : decode cX4_reachFrom 22 = .ok (.aload_n 0, 1) := by decide +kernel
theorem dX4_reachFrom_23 : decode cX4_reachFrom 23 = .ok (.getfield 27, 3) := by decide +kernel
theorem dX4_reachFrom_26 : decode cX4_reachFrom 26 = .ok (.iload 4, 2) := by decide +kernel
theorem dX4_reachFrom_28 : decode cX4_reachFrom 28 = .ok (.aload_n 0, 1) := by decide +kernel
theorem dX4_reachFrom_29 : decode cX4_reachFrom 29 = .ok (.getfield 27, 3) := by decide +kernel
theorem dX4_reachFrom_32 : decode cX4_reachFrom 32 = .ok (.iload 4, 2) := by decide +kernel
theorem dX4_reachFrom_34 : decode cX4_reachFrom 34 = .ok (.iaload, 1) := by decide +kernel
theorem dX4_reachFrom_35 : decode cX4_reachFrom 35 = .ok (.aload_n 2, 1) := by decide +kernel
theorem dX4_reachFrom_36 : decode cX4_reachFrom 36 = .ok (.iload_n 3, 1) := by decide +kernel
theorem dX4_reachFrom_37 : decode cX4_reachFrom 37 = .ok (.iload 4, 2) := by decide +kernel
theorem dX4_reachFrom_39 : decode cX4_reachFrom 39 = .ok (.invokevirtual 113, 3) := by decide +kernel
theorem dX4_reachFrom_42 : decode cX4_reachFrom 42 = .ok (.invokestatic 86, 3) := by decide +kernel
theorem dX4_reachFrom_45 : decode cX4_reachFrom 45 = .ok (.iastore, 1) := by decide +kernel
theorem dX4_reachFrom_46 : decode cX4_reachFrom 46 = .ok (.iinc 4 1, 3) := by decide +kernel
theorem dX4_reachFrom_49 : decode cX4_reachFrom 49 = .ok (.goto (-46), 3) := by decide +kernel
theorem dX4_reachFrom_52 : decode cX4_reachFrom 52 = .ok (.return_, 1) := by decide +kernel
theorem dX4_winningMove_0 : decode cX4_winningMove 0 = .ok (.iconst 0, 1) := by decide +kernel
theorem dX4_winningMove_1 : decode cX4_winningMove 1 = .ok (.istore_n 3, 1) := by decide +kernel
theorem dX4_winningMove_2 : decode cX4_winningMove 2 = .ok (.iconst 0, 1) := by decide +kernel
theorem dX4_winningMove_3 : decode cX4_winningMove 3 = .ok (.istore 4, 2) := by decide +kernel
theorem dX4_winningMove_5 : decode cX4_winningMove 5 = .ok (.iload 4, 2) := by decide +kernel
theorem dX4_winningMove_7 : decode cX4_winningMove 7 = .ok (.aload_n 1, 1) := by decide +kernel
theorem dX4_winningMove_8 : decode cX4_winningMove 8 = .ok (.getfield 75, 3) := by decide +kernel
theorem dX4_winningMove_11 : decode cX4_winningMove 11 = .ok (.if_icmp .ge 21, 3) := by decide +kernel
theorem dX4_winningMove_14 : decode cX4_winningMove 14 = .ok (.iload_n 3, 1) := by decide +kernel
theorem dX4_winningMove_15 : decode cX4_winningMove 15 = .ok (.aload_n 2, 1) := by decide +kernel
theorem dX4_winningMove_16 : decode cX4_winningMove 16 = .ok (.getfield 39, 3) := by decide +kernel
theorem dX4_winningMove_19 : decode cX4_winningMove 19 = .ok (.iload 4, 2) := by decide +kernel
theorem dX4_winningMove_21 : decode cX4_winningMove 21 = .ok (.iaload, 1) := by decide +kernel
theorem dX4_winningMove_22 : decode cX4_winningMove 22 = .ok (.iconst 4, 1) := by decide +kernel
theorem dX4_winningMove_23 : decode cX4_winningMove 23 = .ok (.irem, 1) := by decide +kernel
theorem dX4_winningMove_24 : decode cX4_winningMove 24 = .ok (.ixor, 1) := by decide +kernel
theorem dX4_winningMove_25 : decode cX4_winningMove 25 = .ok (.istore_n 3, 1) := by decide +kernel
theorem dX4_winningMove_26 : decode cX4_winningMove 26 = .ok (.iinc 4 1, 3) := by decide +kernel
theorem dX4_winningMove_29 : decode cX4_winningMove 29 = .ok (.goto (-24), 3) := by decide +kernel
theorem dX4_winningMove_32 : decode cX4_winningMove 32 = .ok (.iconst 0, 1) := by decide +kernel
theorem dX4_winningMove_33 : decode cX4_winningMove 33 = .ok (.istore 4, 2) := by decide +kernel
theorem dX4_winningMove_35 : decode cX4_winningMove 35 = .ok (.iload 4, 2) := by decide +kernel
theorem dX4_winningMove_37 : decode cX4_winningMove 37 = .ok (.aload_n 1, 1) := by decide +kernel
theorem dX4_winningMove_38 : decode cX4_winningMove 38 = .ok (.getfield 75, 3) := by decide +kernel
theorem dX4_winningMove_41 : decode cX4_winningMove 41 = .ok (.if_icmp .ge 69, 3) := by decide +kernel
theorem dX4_winningMove_44 : decode cX4_winningMove 44 = .ok (.iload_n 3, 1) := by decide +kernel
theorem dX4_winningMove_45 : decode cX4_winningMove 45 = .ok (.ifCond .eq 65, 3) := by decide +kernel
theorem dX4_winningMove_48 : decode cX4_winningMove 48 = .ok (.aload_n 2, 1) := by decide +kernel
theorem dX4_winningMove_49 : decode cX4_winningMove 49 = .ok (.getfield 39, 3) := by decide +kernel
theorem dX4_winningMove_52 : decode cX4_winningMove 52 = .ok (.iload 4, 2) := by decide +kernel
theorem dX4_winningMove_54 : decode cX4_winningMove 54 = .ok (.iaload, 1) := by decide +kernel
theorem dX4_winningMove_55 : decode cX4_winningMove 55 = .ok (.istore 5, 2) := by decide +kernel
theorem dX4_winningMove_57 : decode cX4_winningMove 57 = .ok (.iconst 1, 1) := by decide +kernel
theorem dX4_winningMove_58 : decode cX4_winningMove 58 = .ok (.istore 6, 2) := by decide +kernel
theorem dX4_winningMove_60 : decode cX4_winningMove 60 = .ok (.iload 6, 2) := by decide +kernel
theorem dX4_winningMove_62 : decode cX4_winningMove 62 = .ok (.iconst 3, 1) := by decide +kernel
theorem dX4_winningMove_63 : decode cX4_winningMove 63 = .ok (.if_icmp .gt 41, 3) := by decide +kernel
theorem dX4_winningMove_66 : decode cX4_winningMove 66 = .ok (.iload 6, 2) := by decide +kernel
theorem dX4_winningMove_68 : decode cX4_winningMove 68 = .ok (.iload 5, 2) := by decide +kernel
theorem dX4_winningMove_70 : decode cX4_winningMove 70 = .ok (.if_icmp .gt 34, 3) := by decide +kernel
theorem dX4_winningMove_73 : decode cX4_winningMove 73 = .ok (.iload_n 3, 1) := by decide +kernel
theorem dX4_winningMove_74 : decode cX4_winningMove 74 = .ok (.iload 5, 2) := by decide +kernel
theorem dX4_winningMove_76 : decode cX4_winningMove 76 = .ok (.iconst 4, 1) := by decide +kernel
theorem dX4_winningMove_77 : decode cX4_winningMove 77 = .ok (.irem, 1) := by decide +kernel
theorem dX4_winningMove_78 : decode cX4_winningMove 78 = .ok (.ixor, 1) := by decide +kernel
theorem dX4_winningMove_79 : decode cX4_winningMove 79 = .ok (.iload 5, 2) := by decide +kernel
theorem dX4_winningMove_81 : decode cX4_winningMove 81 = .ok (.iload 6, 2) := by decide +kernel
theorem dX4_winningMove_83 : decode cX4_winningMove 83 = .ok (.isub, 1) := by decide +kernel
theorem dX4_winningMove_84 : decode cX4_winningMove 84 = .ok (.iconst 4, 1) := by decide +kernel
theorem dX4_winningMove_85 : decode cX4_winningMove 85 = .ok (.irem, 1) := by decide +kernel
theorem dX4_winningMove_86 : decode cX4_winningMove 86 = .ok (.ixor, 1) := by decide +kernel
theorem dX4_winningMove_87 : decode cX4_winningMove 87 = .ok (.ifCond .ne 11, 3) := by decide +kernel
theorem dX4_winningMove_90 : decode cX4_winningMove 90 = .ok (.iload 4, 2) := by decide +kernel
theorem dX4_winningMove_92 : decode cX4_winningMove 92 = .ok (.iconst 4, 1) := by decide +kernel
theorem dX4_winningMove_93 : decode cX4_winningMove 93 = .ok (.imul, 1) := by decide +kernel
theorem dX4_winningMove_94 : decode cX4_winningMove 94 = .ok (.iload 6, 2) := by decide +kernel
theorem dX4_winningMove_96 : decode cX4_winningMove 96 = .ok (.iadd, 1) := by decide +kernel
theorem dX4_winningMove_97 : decode cX4_winningMove 97 = .ok (.ireturn, 1) := by decide +kernel
theorem dX4_winningMove_98 : decode cX4_winningMove 98 = .ok (.iinc 6 1, 3) := by decide +kernel
theorem dX4_winningMove_101 : decode cX4_winningMove 101 = .ok (.goto (-41), 3) := by decide +kernel
theorem dX4_winningMove_104 : decode cX4_winningMove 104 = .ok (.iinc 4 1, 3) := by decide +kernel
theorem dX4_winningMove_107 : decode cX4_winningMove 107 = .ok (.goto (-72), 3) := by decide +kernel
theorem dX4_winningMove_110 : decode cX4_winningMove 110 = .ok (.iconst (-1), 1) := by decide +kernel
theorem dX4_winningMove_111 : decode cX4_winningMove 111 = .ok (.ireturn, 1) := by decide +kernel
theorem dX4_isRest_0 : decode cX4_isRest 0 = .ok (.aload_n 1, 1) := by decide +kernel
theorem dX4_isRest_1 : decode cX4_isRest 1 = .ok (.iload_n 2, 1) := by decide +kernel
theorem dX4_isRest_2 : decode cX4_isRest 2 = .ok (.iload_n 3, 1) := by decide +kernel
theorem dX4_isRest_3 : decode cX4_isRest 3 = .ok (.invokevirtual 113, 3) := by decide +kernel
theorem dX4_isRest_6 : decode cX4_isRest 6 = .ok (.istore 6, 2) := by decide +kernel
theorem dX4_isRest_8 : decode cX4_isRest 8 = .ok (.iload 6, 2) := by decide +kernel
theorem dX4_isRest_10 : decode cX4_isRest 10 = .ok (.aload_n 1, 1) := by decide +kernel
theorem dX4_isRest_11 : decode cX4_isRest 11 = .ok (.getfield 39, 3) := by decide +kernel
theorem dX4_isRest_14 : decode cX4_isRest 14 = .ok (.iload_n 2, 1) := by decide +kernel
theorem dX4_isRest_15 : decode cX4_isRest 15 = .ok (.iaload, 1) := by decide +kernel
theorem dX4_isRest_16 : decode cX4_isRest 16 = .ok (.iload 4, 2) := by decide +kernel
theorem dX4_isRest_18 : decode cX4_isRest 18 = .ok (.iload 5, 2) := by decide +kernel
theorem dX4_isRest_20 : decode cX4_isRest 20 = .ok (.invokestatic 116, 3) := by decide +kernel
theorem dX4_isRest_23 : decode cX4_isRest 23 = .ok (.istore 7, 2) := by decide +kernel
theorem dX4_isRest_25 : decode cX4_isRest 25 = .ok (.iload 6, 2) := by decide +kernel
theorem dX4_isRest_27 : decode cX4_isRest 27 = .ok (.aload_n 1, 1) := by decide +kernel
theorem dX4_isRest_28 : decode cX4_isRest 28 = .ok (.getfield 39, 3) := by decide +kernel
theorem dX4_isRest_31 : decode cX4_isRest 31 = .ok (.iload_n 3, 1) := by decide +kernel
theorem dX4_isRest_32 : decode cX4_isRest 32 = .ok (.iaload, 1) := by decide +kernel
theorem dX4_isRest_33 : decode cX4_isRest 33 = .ok (.iload 5, 2) := by decide +kernel
theorem dX4_isRest_35 : decode cX4_isRest 35 = .ok (.iload 4, 2) := by decide +kernel
theorem dX4_isRest_37 : decode cX4_isRest 37 = .ok (.invokestatic 116, 3) := by decide +kernel
theorem dX4_isRest_40 : decode cX4_isRest 40 = .ok (.istore 8, 2) := by decide +kernel
theorem dX4_isRest_42 : decode cX4_isRest 42 = .ok (.iload 7, 2) := by decide +kernel
theorem dX4_isRest_44 : decode cX4_isRest 44 = .ok (.iload 6, 2) := by decide +kernel
theorem dX4_isRest_46 : decode cX4_isRest 46 = .ok (.aload_n 1, 1) := by decide +kernel
theorem dX4_isRest_47 : decode cX4_isRest 47 = .ok (.getfield 39, 3) := by decide +kernel
theorem dX4_isRest_50 : decode cX4_isRest 50 = .ok (.iload_n 2, 1) := by decide +kernel
theorem dX4_isRest_51 : decode cX4_isRest 51 = .ok (.iaload, 1) := by decide +kernel
theorem dX4_isRest_52 : decode cX4_isRest 52 = .ok (.iconst 1, 1) := by decide +kernel
theorem dX4_isRest_53 : decode cX4_isRest 53 = .ok (.iload 4, 2) := by decide +kernel
theorem dX4_isRest_55 : decode cX4_isRest 55 = .ok (.isub, 1) := by decide +kernel
theorem dX4_isRest_56 : decode cX4_isRest 56 = .ok (.iload 5, 2) := by decide +kernel
theorem dX4_isRest_58 : decode cX4_isRest 58 = .ok (.invokestatic 116, 3) := by decide +kernel
theorem dX4_isRest_61 : decode cX4_isRest 61 = .ok (.if_icmp .lt 29, 3) := by decide +kernel
theorem dX4_isRest_64 : decode cX4_isRest 64 = .ok (.iload 8, 2) := by decide +kernel
theorem dX4_isRest_66 : decode cX4_isRest 66 = .ok (.iload 6, 2) := by decide +kernel
theorem dX4_isRest_68 : decode cX4_isRest 68 = .ok (.aload_n 1, 1) := by decide +kernel
theorem dX4_isRest_69 : decode cX4_isRest 69 = .ok (.getfield 39, 3) := by decide +kernel
theorem dX4_isRest_72 : decode cX4_isRest 72 = .ok (.iload_n 3, 1) := by decide +kernel
theorem dX4_isRest_73 : decode cX4_isRest 73 = .ok (.iaload, 1) := by decide +kernel
theorem dX4_isRest_74 : decode cX4_isRest 74 = .ok (.iconst 1, 1) := by decide +kernel
theorem dX4_isRest_75 : decode cX4_isRest 75 = .ok (.iload 5, 2) := by decide +kernel
theorem dX4_isRest_77 : decode cX4_isRest 77 = .ok (.isub, 1) := by decide +kernel
theorem dX4_isRest_78 : decode cX4_isRest 78 = .ok (.iload 4, 2) := by decide +kernel
theorem dX4_isRest_80 : decode cX4_isRest 80 = .ok (.invokestatic 116, 3) := by decide +kernel
theorem dX4_isRest_83 : decode cX4_isRest 83 = .ok (.if_icmp .lt 7, 3) := by decide +kernel
theorem dX4_isRest_86 : decode cX4_isRest 86 = .ok (.iconst 1, 1) := by decide +kernel
theorem dX4_isRest_87 : decode cX4_isRest 87 = .ok (.goto 4, 3) := by decide +kernel
theorem dX4_isRest_90 : decode cX4_isRest 90 = .ok (.iconst 0, 1) := by decide +kernel
theorem dX4_isRest_91 : decode cX4_isRest 91 = .ok (.ireturn, 1) := by decide +kernel
theorem dX4_share_0 : decode cX4_share 0 = .ok (.iload_n 2, 1) := by decide +kernel
theorem dX4_share_1 : decode cX4_share 1 = .ok (.ifCond .ne 18, 3) := by decide +kernel
theorem dX4_share_4 : decode cX4_share 4 = .ok (.iload_n 3, 1) := by decide +kernel
theorem dX4_share_5 : decode cX4_share 5 = .ok (.ifCond .ne 10, 3) := by decide +kernel
theorem dX4_share_8 : decode cX4_share 8 = .ok (.bipush 20, 2) := by decide +kernel
theorem dX4_share_10 : decode cX4_share 10 = .ok (.iload_n 1, 1) := by decide +kernel
theorem dX4_share_11 : decode cX4_share 11 = .ok (.isub, 1) := by decide +kernel
theorem dX4_share_12 : decode cX4_share 12 = .ok (.goto 6, 3) := by decide +kernel
theorem dX4_share_15 : decode cX4_share 15 = .ok (.iload_n 0, 1) := by decide +kernel
theorem dX4_share_16 : decode cX4_share 16 = .ok (.iconst 4, 1) := by decide +kernel
theorem dX4_share_17 : decode cX4_share 17 = .ok (.idiv, 1) := by decide +kernel
theorem dX4_share_18 : decode cX4_share 18 = .ok (.ireturn, 1) := by decide +kernel
theorem dX4_share_19 : decode cX4_share 19 = .ok (.iload_n 3, 1) := by decide +kernel
theorem dX4_share_20 : decode cX4_share 20 = .ok (.ifCond .ne 7, 3) := by decide +kernel
theorem dX4_share_23 : decode cX4_share 23 = .ok (.iload_n 1, 1) := by decide +kernel
theorem dX4_share_24 : decode cX4_share 24 = .ok (.goto 7, 3) := by decide +kernel
theorem dX4_share_27 : decode cX4_share 27 = .ok (.iload_n 0, 1) := by decide +kernel
theorem dX4_share_28 : decode cX4_share 28 = .ok (.bipush 8, 2) := by decide +kernel
theorem dX4_share_30 : decode cX4_share 30 = .ok (.idiv, 1) := by decide +kernel
theorem dX4_share_31 : decode cX4_share 31 = .ok (.ireturn, 1) := by decide +kernel
theorem dX5_clear_0 : decode cX5_clear 0 = .ok (.aload_n 0, 1) := by decide +kernel
theorem dX5_clear_1 : decode cX5_clear 1 = .ok (.iconst 0, 1) := by decide +kernel
theorem dX5_clear_2 : decode cX5_clear 2 = .ok (.putfield 35, 3) := by decide +kernel
theorem dX5_clear_5 : decode cX5_clear 5 = .ok (.aload_n 0, 1) := by decide +kernel
theorem dX5_clear_6 : decode cX5_clear 6 = .ok (.iconst (-1), 1) := by decide +kernel
theorem dX5_clear_7 : decode cX5_clear 7 = .ok (.putfield 9, 3) := by decide +kernel
theorem dX5_clear_10 : decode cX5_clear 10 = .ok (.return_, 1) := by decide +kernel
theorem dX5_knownNow_0 : decode cX5_knownNow 0 = .ok (.aload_n 0, 1) := by decide +kernel
theorem dX5_knownNow_1 : decode cX5_knownNow 1 = .ok (.getfield 9, 3) := by decide +kernel
theorem dX5_knownNow_4 : decode cX5_knownNow 4 = .ok (.iconst (-1), 1) := by decide +kernel
theorem dX5_knownNow_5 : decode cX5_knownNow 5 = .ok (.if_icmp .ne 10, 3) := by decide +kernel
theorem dX5_knownNow_8 : decode cX5_knownNow 8 = .ok (.aload_n 0, 1) := by decide +kernel
theorem dX5_knownNow_9 : decode cX5_knownNow 9 = .ok (.getfield 35, 3) := by decide +kernel
theorem dX5_knownNow_12 : decode cX5_knownNow 12 = .ok (.goto 7, 3) := by decide +kernel
theorem dX5_knownNow_15 : decode cX5_knownNow 15 = .ok (.aload_n 0, 1) := by decide +kernel
theorem dX5_knownNow_16 : decode cX5_knownNow 16 = .ok (.getfield 9, 3) := by decide +kernel
theorem dX5_knownNow_19 : decode cX5_knownNow 19 = .ok (.ireturn, 1) := by decide +kernel
theorem dX5_noteSight_0 : decode cX5_noteSight 0 = .ok (.aload_n 0, 1) := by decide +kernel
theorem dX5_noteSight_1 : decode cX5_noteSight 1 = .ok (.getfield 35, 3) := by decide +kernel
theorem dX5_noteSight_4 : decode cX5_noteSight 4 = .ok (.bipush 24, 2) := by decide +kernel
theorem dX5_noteSight_6 : decode cX5_noteSight 6 = .ok (.if_icmp .lt 5, 3) := by decide +kernel
theorem dX5_noteSight_9 : decode cX5_noteSight 9 = .ok (.iconst (-1), 1) := by decide +kernel
theorem dX5_noteSight_10 : decode cX5_noteSight 10 = .ok (.ireturn, 1) := by decide +kernel
theorem dX5_noteSight_11 : decode cX5_noteSight 11 = .ok (.aload_n 0, 1) := by decide +kernel
theorem dX5_noteSight_12 : decode cX5_noteSight 12 = .ok (.getfield 15, 3) := by decide +kernel
theorem dX5_noteSight_15 : decode cX5_noteSight 15 = .ok (.aload_n 0, 1) := by decide +kernel
theorem dX5_noteSight_16 : decode cX5_noteSight 16 = .ok (.getfield 35, 3) := by decide +kernel
theorem dX5_noteSight_19 : decode cX5_noteSight 19 = .ok (.iload_n 1, 1) := by decide +kernel
theorem dX5_noteSight_20 : decode cX5_noteSight 20 = .ok (.iastore, 1) := by decide +kernel
theorem dX5_noteSight_21 : decode cX5_noteSight 21 = .ok (.aload_n 0, 1) := by decide +kernel
theorem dX5_noteSight_22 : decode cX5_noteSight 22 = .ok (.getfield 19, 3) := by decide +kernel
theorem dX5_noteSight_25 : decode cX5_noteSight 25 = .ok (.aload_n 0, 1) := by decide +kernel
theorem dX5_noteSight_26 : decode cX5_noteSight 26 = .ok (.getfield 35, 3) := by decide +kernel
theorem dX5_noteSight_29 : decode cX5_noteSight 29 = .ok (.iload_n 2, 1) := by decide +kernel
theorem dX5_noteSight_30 : decode cX5_noteSight 30 = .ok (.iastore, 1) := by decide +kernel
theorem dX5_noteSight_31 : decode cX5_noteSight 31 = .ok (.aload_n 0, 1) := by decide +kernel
theorem dX5_noteSight_32 : decode cX5_noteSight 32 = .ok (.getfield 22, 3) := by decide +kernel
theorem dX5_noteSight_35 : decode cX5_noteSight 35 = .ok (.aload_n 0, 1) := by decide +kernel
theorem dX5_noteSight_36 : decode cX5_noteSight 36 = .ok (.getfield 35, 3) := by decide +kernel
theorem dX5_noteSight_39 : decode cX5_noteSight 39 = .ok (.iload_n 3, 1) := by decide +kernel
theorem dX5_noteSight_40 : decode cX5_noteSight 40 = .ok (.iastore, 1) := by decide +kernel
theorem dX5_noteSight_41 : decode cX5_noteSight 41 = .ok (.aload_n 0, 1) := by decide +kernel
theorem dX5_noteSight_42 : decode cX5_noteSight 42 = .ok (.getfield 25, 3) := by decide +kernel
theorem dX5_noteSight_45 : decode cX5_noteSight 45 = .ok (.aload_n 0, 1) := by decide +kernel
theorem dX5_noteSight_46 : decode cX5_noteSight 46 = .ok (.getfield 35, 3) := by decide +kernel
theorem dX5_noteSight_49 : decode cX5_noteSight 49 = .ok (.iload 4, 2) := by decide +kernel
theorem dX5_noteSight_51 : decode cX5_noteSight 51 = .ok (.bastore, 1) := by decide +kernel
theorem dX5_noteSight_52 : decode cX5_noteSight 52 = .ok (.aload_n 0, 1) := by decide +kernel
theorem dX5_noteSight_53 : decode cX5_noteSight 53 = .ok (.getfield 29, 3) := by decide +kernel
theorem dX5_noteSight_56 : decode cX5_noteSight 56 = .ok (.aload_n 0, 1) := by decide +kernel
theorem dX5_noteSight_57 : decode cX5_noteSight 57 = .ok (.getfield 35, 3) := by decide +kernel
theorem dX5_noteSight_60 : decode cX5_noteSight 60 = .ok (.iconst (-1), 1) := by decide +kernel
theorem dX5_noteSight_61 : decode cX5_noteSight 61 = .ok (.iastore, 1) := by decide +kernel
theorem dX5_noteSight_62 : decode cX5_noteSight 62 = .ok (.aload_n 0, 1) := by decide +kernel
theorem dX5_noteSight_63 : decode cX5_noteSight 63 = .ok (.dup, 1) := by decide +kernel
theorem dX5_noteSight_64 : decode cX5_noteSight 64 = .ok (.getfield 35, 3) := by decide +kernel
theorem dX5_noteSight_67 : decode cX5_noteSight 67 = .ok (.iconst 1, 1) := by decide +kernel
theorem dX5_noteSight_68 : decode cX5_noteSight 68 = .ok (.iadd, 1) := by decide +kernel
theorem dX5_noteSight_69 : decode cX5_noteSight 69 = .ok (.putfield 35, 3) := by decide +kernel
theorem dX5_noteSight_72 : decode cX5_noteSight 72 = .ok (.aload_n 0, 1) := by decide +kernel
theorem dX5_noteSight_73 : decode cX5_noteSight 73 = .ok (.getfield 35, 3) := by decide +kernel
theorem dX5_noteSight_76 : decode cX5_noteSight 76 = .ok (.iconst 1, 1) := by decide +kernel
theorem dX5_noteSight_77 : decode cX5_noteSight 77 = .ok (.isub, 1) := by decide +kernel
theorem dX5_noteSight_78 : decode cX5_noteSight 78 = .ok (.ireturn, 1) := by decide +kernel
theorem dX5_noteStrike_0 : decode cX5_noteStrike 0 = .ok (.aload_n 0, 1) := by decide +kernel
theorem dX5_noteStrike_1 : decode cX5_noteStrike 1 = .ok (.getfield 35, 3) := by decide +kernel
theorem dX5_noteStrike_4 : decode cX5_noteStrike 4 = .ok (.bipush 24, 2) := by decide +kernel
theorem dX5_noteStrike_6 : decode cX5_noteStrike 6 = .ok (.if_icmp .lt 5, 3) := by decide +kernel
theorem dX5_noteStrike_9 : decode cX5_noteStrike 9 = .ok (.iconst (-1), 1) := by decide +kernel
theorem dX5_noteStrike_10 : decode cX5_noteStrike 10 = .ok (.ireturn, 1) := by decide +kernel
theorem dX5_noteStrike_11 : decode cX5_noteStrike 11 = .ok (.aload_n 0, 1) := by decide +kernel
theorem dX5_noteStrike_12 : decode cX5_noteStrike 12 = .ok (.getfield 29, 3) := by decide +kernel
theorem dX5_noteStrike_15 : decode cX5_noteStrike 15 = .ok (.aload_n 0, 1) := by decide +kernel
theorem dX5_noteStrike_16 : decode cX5_noteStrike 16 = .ok (.getfield 35, 3) := by decide +kernel
theorem dX5_noteStrike_19 : decode cX5_noteStrike 19 = .ok (.iload_n 1, 1) := by decide +kernel
theorem dX5_noteStrike_20 : decode cX5_noteStrike 20 = .ok (.iastore, 1) := by decide +kernel
theorem dX5_noteStrike_21 : decode cX5_noteStrike 21 = .ok (.aload_n 0, 1) := by decide +kernel
theorem dX5_noteStrike_22 : decode cX5_noteStrike 22 = .ok (.dup, 1) := by decide +kernel
theorem dX5_noteStrike_23 : decode cX5_noteStrike 23 = .ok (.getfield 35, 3) := by decide +kernel
theorem dX5_noteStrike_26 : decode cX5_noteStrike 26 = .ok (.iconst 1, 1) := by decide +kernel
theorem dX5_noteStrike_27 : decode cX5_noteStrike 27 = .ok (.iadd, 1) := by decide +kernel
theorem dX5_noteStrike_28 : decode cX5_noteStrike 28 = .ok (.putfield 35, 3) := by decide +kernel
theorem dX5_noteStrike_31 : decode cX5_noteStrike 31 = .ok (.aload_n 0, 1) := by decide +kernel
theorem dX5_noteStrike_32 : decode cX5_noteStrike 32 = .ok (.getfield 35, 3) := by decide +kernel
theorem dX5_noteStrike_35 : decode cX5_noteStrike 35 = .ok (.iconst 1, 1) := by decide +kernel
theorem dX5_noteStrike_36 : decode cX5_noteStrike 36 = .ok (.isub, 1) := by decide +kernel
theorem dX5_noteStrike_37 : decode cX5_noteStrike 37 = .ok (.ireturn, 1) := by decide +kernel
theorem dX5_sift_0 : decode cX5_sift 0 = .ok (.aload_n 0, 1) := by decide +kernel
theorem dX5_sift_1 : decode cX5_sift 1 = .ok (.invokevirtual 38, 3) := by decide +kernel
theorem dX5_sift_4 : decode cX5_sift 4 = .ok (.istore_n 1, 1) := by decide +kernel
theorem dX5_sift_5 : decode cX5_sift 5 = .ok (.iconst 0, 1) := by decide +kernel
theorem dX5_sift_6 : decode cX5_sift 6 = .ok (.istore_n 2, 1) := by decide +kernel
theorem dX5_sift_7 : decode cX5_sift 7 = .ok (.iload_n 2, 1) := by decide +kernel
theorem dX5_sift_8 : decode cX5_sift 8 = .ok (.bipush 24, 2) := by decide +kernel
theorem dX5_sift_10 : decode cX5_sift 10 = .ok (.if_icmp .ge 25, 3) := by decide +kernel
theorem dX5_sift_13 : decode cX5_sift 13 = .ok (.aload_n 0, 1) := by decide +kernel
theorem dX5_sift_14 : decode cX5_sift 14 = .ok (.getfield 32, 3) := by decide +kernel
theorem dX5_sift_17 : decode cX5_sift 17 = .ok (.iload_n 2, 1) := by decide +kernel
theorem dX5_sift_18 : decode cX5_sift 18 = .ok (.iload_n 2, 1) := by decide +kernel
theorem dX5_sift_19 : decode cX5_sift 19 = .ok (.iload_n 1, 1) := by decide +kernel
theorem dX5_sift_20 : decode cX5_sift 20 = .ok (.if_icmp .ge 7, 3) := by decide +kernel
theorem dX5_sift_23 : decode cX5_sift 23 = .ok (.iconst 1, 1) := by decide +kernel
theorem dX5_sift_24 : decode cX5_sift 24 = .ok (.goto 4, 3) := by decide +kernel
theorem dX5_sift_27 : decode cX5_sift 27 = .ok (.iconst 0, 1) := by decide +kernel
theorem dX5_sift_28 : decode cX5_sift 28 = .ok (.bastore, 1) := by decide +kernel
theorem dX5_sift_29 : decode cX5_sift 29 = .ok (.iinc 2 1, 3) := by decide +kernel
theorem dX5_sift_32 : decode cX5_sift 32 = .ok (.goto (-25), 3) := by decide +kernel
theorem dX5_sift_35 : decode cX5_sift 35 = .ok (.iload_n 1, 1) := by decide +kernel
theorem dX5_sift_36 : decode cX5_sift 36 = .ok (.iconst 1, 1) := by decide +kernel
theorem dX5_sift_37 : decode cX5_sift 37 = .ok (.isub, 1) := by decide +kernel
theorem dX5_sift_38 : decode cX5_sift 38 = .ok (.istore_n 2, 1) := by decide +kernel
theorem dX5_sift_39 : decode cX5_sift 39 = .ok (.iload_n 2, 1) := by decide +kernel
theorem dX5_sift_40 : decode cX5_sift 40 = .ok (.ifCond .lt 40, 3) := by decide +kernel
theorem dX5_sift_43 : decode cX5_sift 43 = .ok (.aload_n 0, 1) := by decide +kernel
theorem dX5_sift_44 : decode cX5_sift 44 = .ok (.getfield 32, 3) := by decide +kernel
theorem dX5_sift_47 : decode cX5_sift 47 = .ok (.iload_n 2, 1) := by decide +kernel
theorem dX5_sift_48 : decode cX5_sift 48 = .ok (.baload, 1) := by decide +kernel
theorem dX5_sift_49 : decode cX5_sift 49 = .ok (.ifCond .eq 25, 3) := by decide +kernel
theorem dX5_sift_52 : decode cX5_sift 52 = .ok (.aload_n 0, 1) := by decide +kernel
theorem dX5_sift_53 : decode cX5_sift 53 = .ok (.getfield 29, 3) := by decide +kernel
theorem dX5_sift_56 : decode cX5_sift 56 = .ok (.iload_n 2, 1) := by decide +kernel
theorem dX5_sift_57 : decode cX5_sift 57 = .ok (.iaload, 1) := by decide +kernel
theorem dX5_sift_58 : decode cX5_sift 58 = .ok (.iconst (-1), 1) := by decide +kernel
theorem dX5_sift_59 : decode cX5_sift 59 = .ok (.if_icmp .eq 15, 3) := by decide +kernel
theorem dX5_sift_62 : decode cX5_sift 62 = .ok (.aload_n 0, 1) := by decide +kernel
theorem dX5_sift_63 : decode cX5_sift 63 = .ok (.getfield 32, 3) := by decide +kernel
theorem dX5_sift_66 : decode cX5_sift 66 = .ok (.aload_n 0, 1) := by decide +kernel
theorem dX5_sift_67 : decode cX5_sift 67 = .ok (.getfield 29, 3) := by decide +kernel
theorem dX5_sift_70 : decode cX5_sift 70 = .ok (.iload_n 2, 1) := by decide +kernel
theorem dX5_sift_71 : decode cX5_sift 71 = .ok (.iaload, 1) := by decide +kernel
theorem dX5_sift_72 : decode cX5_sift 72 = .ok (.iconst 0, 1) := by decide +kernel
theorem dX5_sift_73 : decode cX5_sift 73 = .ok (.bastore, 1) := by decide +kernel
theorem dX5_sift_74 : decode cX5_sift 74 = .ok (.iinc 2 (-1), 3) := by decide +kernel
theorem dX5_sift_77 : decode cX5_sift 77 = .ok (.goto (-38), 3) := by decide +kernel
theorem dX5_sift_80 : decode cX5_sift 80 = .ok (.return_, 1) := by decide +kernel
theorem dX5_isSight_0 : decode cX5_isSight 0 = .ok (.aload_n 0, 1) := by decide +kernel
theorem dX5_isSight_1 : decode cX5_isSight 1 = .ok (.getfield 32, 3) := by decide +kernel
theorem dX5_isSight_4 : decode cX5_isSight 4 = .ok (.iload_n 1, 1) := by decide +kernel
theorem dX5_isSight_5 : decode cX5_isSight 5 = .ok (.baload, 1) := by decide +kernel
theorem dX5_isSight_6 : decode cX5_isSight 6 = .ok (.ifCond .eq 17, 3) := by decide +kernel
theorem dX5_isSight_9 : decode cX5_isSight 9 = .ok (.aload_n 0, 1) := by decide +kernel
theorem dX5_isSight_10 : decode cX5_isSight 10 = .ok (.getfield 29, 3) := by decide +kernel
theorem dX5_isSight_13 : decode cX5_isSight 13 = .ok (.iload_n 1, 1) := by decide +kernel
theorem dX5_isSight_14 : decode cX5_isSight 14 = .ok (.iaload, 1) := by decide +kernel
theorem dX5_isSight_15 : decode cX5_isSight 15 = .ok (.iconst (-1), 1) := by decide +kernel
theorem dX5_isSight_16 : decode cX5_isSight 16 = .ok (.if_icmp .ne 7, 3) := by decide +kernel
theorem dX5_isSight_19 : decode cX5_isSight 19 = .ok (.iconst 1, 1) := by decide +kernel
theorem dX5_isSight_20 : decode cX5_isSight 20 = .ok (.goto 4, 3) := by decide +kernel
theorem dX5_isSight_23 : decode cX5_isSight 23 = .ok (.iconst 0, 1) := by decide +kernel
theorem dX5_isSight_24 : decode cX5_isSight 24 = .ok (.ireturn, 1) := by decide +kernel
theorem dX5_latestYear_0 : decode cX5_latestYear 0 = .ok (.iconst 0, 1) := by decide +kernel
theorem dX5_latestYear_1 : decode cX5_latestYear 1 = .ok (.istore_n 1, 1) := by decide +kernel
theorem dX5_latestYear_2 : decode cX5_latestYear 2 = .ok (.iconst 0, 1) := by decide +kernel
theorem dX5_latestYear_3 : decode cX5_latestYear 3 = .ok (.istore_n 2, 1) := by decide +kernel
theorem dX5_latestYear_4 : decode cX5_latestYear 4 = .ok (.iload_n 2, 1) := by decide +kernel
theorem dX5_latestYear_5 : decode cX5_latestYear 5 = .ok (.aload_n 0, 1) := by decide +kernel
theorem dX5_latestYear_6 : decode cX5_latestYear 6 = .ok (.getfield 35, 3) := by decide +kernel
theorem dX5_latestYear_9 : decode cX5_latestYear 9 = .ok (.if_icmp .ge 28, 3) := by decide +kernel
theorem dX5_latestYear_12 : decode cX5_latestYear 12 = .ok (.aload_n 0, 1) := by decide +kernel
theorem dX5_latestYear_13 : decode cX5_latestYear 13 = .ok (.iload_n 2, 1) := by decide +kernel
theorem dX5_latestYear_14 : decode cX5_latestYear 14 = .ok (.invokevirtual 42, 3) := by decide +kernel
theorem dX5_latestYear_17 : decode cX5_latestYear 17 = .ok (.ifCond .eq 14, 3) := by decide +kernel
theorem dX5_latestYear_20 : decode cX5_latestYear 20 = .ok (.iload_n 1, 1) := by decide +kernel
theorem dX5_latestYear_21 : decode cX5_latestYear 21 = .ok (.aload_n 0, 1) := by decide +kernel
theorem dX5_latestYear_22 : decode cX5_latestYear 22 = .ok (.getfield 15, 3) := by decide +kernel
theorem dX5_latestYear_25 : decode cX5_latestYear 25 = .ok (.iload_n 2, 1) := by decide +kernel
theorem dX5_latestYear_26 : decode cX5_latestYear 26 = .ok (.iaload, 1) := by decide +kernel
theorem dX5_latestYear_27 : decode cX5_latestYear 27 = .ok (.invokestatic 46, 3) := by decide +kernel
theorem dX5_latestYear_30 : decode cX5_latestYear 30 = .ok (.istore_n 1, 1) := by decide +kernel
theorem dX5_latestYear_31 : decode cX5_latestYear 31 = .ok (.iinc 2 1, 3) := by decide +kernel
theorem dX5_latestYear_34 : decode cX5_latestYear 34 = .ok (.goto (-30), 3) := by decide +kernel
theorem dX5_latestYear_37 : decode cX5_latestYear 37 = .ok (.iload_n 1, 1) := by decide +kernel
theorem dX5_latestYear_38 : decode cX5_latestYear 38 = .ok (.ireturn, 1) := by decide +kernel
theorem dX5_holdsIn_0 : decode cX5_holdsIn 0 = .ok (.iconst 0, 1) := by decide +kernel
theorem dX5_holdsIn_1 : decode cX5_holdsIn 1 = .ok (.istore_n 3, 1) := by decide +kernel
theorem dX5_holdsIn_2 : decode cX5_holdsIn 2 = .ok (.iload_n 3, 1) := by decide +kernel
theorem dX5_holdsIn_3 : decode cX5_holdsIn 3 = .ok (.aload_n 0, 1) := by decide +kernel
theorem dX5_holdsIn_4 : decode cX5_holdsIn 4 = .ok (.getfield 35, 3) := by decide +kernel
theorem dX5_holdsIn_7 : decode cX5_holdsIn 7 = .ok (.if_icmp .ge 63, 3) := by decide +kernel
theorem dX5_holdsIn_10 : decode cX5_holdsIn 10 = .ok (.aload_n 0, 1) := by decide +kernel
theorem dX5_holdsIn_11 : decode cX5_holdsIn 11 = .ok (.iload_n 3, 1) := by decide +kernel
theorem dX5_holdsIn_12 : decode cX5_holdsIn 12 = .ok (.invokevirtual 42, 3) := by decide +kernel
theorem dX5_holdsIn_15 : decode cX5_holdsIn 15 = .ok (.ifCond .eq 49, 3) := by decide +kernel
theorem dX5_holdsIn_18 : decode cX5_holdsIn 18 = .ok (.aload_n 0, 1) := by decide +kernel
theorem dX5_holdsIn_19 : decode cX5_holdsIn 19 = .ok (.getfield 15, 3) := by decide +kernel
theorem dX5_holdsIn_22 : decode cX5_holdsIn 22 = .ok (.iload_n 3, 1) := by decide +kernel
theorem dX5_holdsIn_23 : decode cX5_holdsIn 23 = .ok (.iaload, 1) := by decide +kernel
theorem dX5_holdsIn_24 : decode cX5_holdsIn 24 = .ok (.iload_n 1, 1) := by decide +kernel
theorem dX5_holdsIn_25 : decode cX5_holdsIn 25 = .ok (.if_icmp .ne 39, 3) := by decide +kernel
theorem dX5_holdsIn_28 : decode cX5_holdsIn 28 = .ok (.aload_n 2, 1) := by decide +kernel
theorem dX5_holdsIn_29 : decode cX5_holdsIn 29 = .ok (.getfield 52, 3) := by decide +kernel
theorem dX5_holdsIn_32 : decode cX5_holdsIn 32 = .ok (.aload_n 0, 1) := by decide +kernel
theorem dX5_holdsIn_33 : decode cX5_holdsIn 33 = .ok (.getfield 19, 3) := by decide +kernel
theorem dX5_holdsIn_36 : decode cX5_holdsIn 36 = .ok (.iload_n 3, 1) := by decide +kernel
theorem dX5_holdsIn_37 : decode cX5_holdsIn 37 = .ok (.iaload, 1) := by decide +kernel
theorem dX5_holdsIn_38 : decode cX5_holdsIn 38 = .ok (.iaload, 1) := by decide +kernel
theorem dX5_holdsIn_39 : decode cX5_holdsIn 39 = .ok (.aload_n 0, 1) := by decide +kernel
theorem dX5_holdsIn_40 : decode cX5_holdsIn 40 = .ok (.getfield 22, 3) := by decide +kernel
theorem dX5_holdsIn_43 : decode cX5_holdsIn 43 = .ok (.iload_n 3, 1) := by decide +kernel
theorem dX5_holdsIn_44 : decode cX5_holdsIn 44 = .ok (.iaload, 1) := by decide +kernel
theorem dX5_holdsIn_45 : decode cX5_holdsIn 45 = .ok (.if_icmp .lt 7, 3) := by decide +kernel
theorem dX5_holdsIn_48 : decode cX5_holdsIn 48 = .ok (.iconst 1, 1) := by decide +kernel
theorem dX5_holdsIn_49 : decode cX5_holdsIn 49 = .ok (.goto 4, 3) := by decide +kernel
theorem dX5_holdsIn_52 : decode cX5_holdsIn 52 = .ok (.iconst 0, 1) := by decide +kernel
theorem dX5_holdsIn_53 : decode cX5_holdsIn 53 = .ok (.aload_n 0, 1) := by decide +kernel
theorem dX5_holdsIn_54 : decode cX5_holdsIn 54 = .ok (.getfield 25, 3) := by decide +kernel
theorem dX5_holdsIn_57 : decode cX5_holdsIn 57 = .ok (.iload_n 3, 1) := by decide +kernel
theorem dX5_holdsIn_58 : decode cX5_holdsIn 58 = .ok (.baload, 1) := by decide +kernel
theorem dX5_holdsIn_59 : decode cX5_holdsIn 59 = .ok (.if_icmp .eq 5, 3) := by decide +kernel
theorem dX5_holdsIn_62 : decode cX5_holdsIn 62 = .ok (.iconst 0, 1) := by decide +kernel
theorem dX5_holdsIn_63 : decode cX5_holdsIn 63 = .ok (.ireturn, 1) := by decide +kernel
theorem dX5_holdsIn_64 : decode cX5_holdsIn 64 = .ok (.iinc 3 1, 3) := by decide +kernel
theorem dX5_holdsIn_67 : decode cX5_holdsIn 67 = .ok (.goto (-65), 3) := by decide +kernel
theorem dX5_holdsIn_70 : decode cX5_holdsIn 70 = .ok (.iconst 1, 1) := by decide +kernel
theorem dX5_holdsIn_71 : decode cX5_holdsIn 71 = .ok (.ireturn, 1) := by decide +kernel
theorem dX6_begin_0 : decode cX6_begin 0 = .ok (.aload_n 0, 1) := by decide +kernel
theorem dX6_begin_1 : decode cX6_begin 1 = .ok (.iconst 0, 1) := by decide +kernel
theorem dX6_begin_2 : decode cX6_begin 2 = .ok (.putfield 36, 3) := by decide +kernel
theorem dX6_begin_5 : decode cX6_begin 5 = .ok (.aload_n 0, 1) := by decide +kernel
theorem dX6_begin_6 : decode cX6_begin 6 = .ok (.iconst 0, 1) := by decide +kernel
theorem dX6_begin_7 : decode cX6_begin 7 = .ok (.putfield 40, 3) := by decide +kernel
theorem dX6_begin_10 : decode cX6_begin 10 = .ok (.aload_n 0, 1) := by decide +kernel
theorem dX6_begin_11 : decode cX6_begin 11 = .ok (.aload_n 1, 1) := by decide +kernel
theorem dX6_begin_12 : decode cX6_begin 12 = .ok (.getfield 43, 3) := by decide +kernel
theorem dX6_begin_15 : decode cX6_begin 15 = .ok (.putfield 48, 3) := by decide +kernel
theorem dX6_begin_18 : decode cX6_begin 18 = .ok (.aload_n 0, 1) := by decide +kernel
theorem dX6_begin_19 : decode cX6_begin 19 = .ok (.iconst 0, 1) := by decide +kernel
theorem dX6_begin_20 : decode cX6_begin 20 = .ok (.putfield 51, 3) := by decide +kernel
theorem dX6_begin_23 : decode cX6_begin 23 = .ok (.aload_n 0, 1) := by decide +kernel
theorem dX6_begin_24 : decode cX6_begin 24 = .ok (.aload_n 1, 1) := by decide +kernel
theorem dX6_begin_25 : decode cX6_begin 25 = .ok (.invokevirtual 54, 3) := by decide +kernel
theorem dX6_begin_28 : decode cX6_begin 28 = .ok (.iconst 0, 1) := by decide +kernel
theorem dX6_begin_29 : decode cX6_begin 29 = .ok (.istore_n 2, 1) := by decide +kernel
theorem dX6_begin_30 : decode cX6_begin 30 = .ok (.iload_n 2, 1) := by decide +kernel
theorem dX6_begin_31 : decode cX6_begin 31 = .ok (.aload_n 1, 1) := by decide +kernel
theorem dX6_begin_32 : decode cX6_begin 32 = .ok (.getfield 58, 3) := by decide +kernel
theorem dX6_begin_35 : decode cX6_begin 35 = .ok (.if_icmp .ge 40, 3) := by decide +kernel
theorem dX6_begin_38 : decode cX6_begin 38 = .ok (.aload_n 0, 1) := by decide +kernel
theorem dX6_begin_39 : decode cX6_begin 39 = .ok (.getfield 27, 3) := by decide +kernel
theorem dX6_begin_42 : decode cX6_begin 42 = .ok (.iload_n 2, 1) := by decide +kernel
theorem dX6_begin_43 : decode cX6_begin 43 = .ok (.aload_n 1, 1) := by decide +kernel
theorem dX6_begin_44 : decode cX6_begin 44 = .ok (.getfield 61, 3) := by decide +kernel
theorem dX6_begin_47 : decode cX6_begin 47 = .ok (.iload_n 2, 1) := by decide +kernel
theorem dX6_begin_48 : decode cX6_begin 48 = .ok (.iaload, 1) := by decide +kernel
theorem dX6_begin_49 : decode cX6_begin 49 = .ok (.iastore, 1) := by decide +kernel
theorem dX6_begin_50 : decode cX6_begin 50 = .ok (.aload_n 0, 1) := by decide +kernel
theorem dX6_begin_51 : decode cX6_begin 51 = .ok (.getfield 30, 3) := by decide +kernel
theorem dX6_begin_54 : decode cX6_begin 54 = .ok (.iload_n 2, 1) := by decide +kernel
theorem dX6_begin_55 : decode cX6_begin 55 = .ok (.aload_n 1, 1) := by decide +kernel
theorem dX6_begin_56 : decode cX6_begin 56 = .ok (.getfield 64, 3) := by decide +kernel
theorem dX6_begin_59 : decode cX6_begin 59 = .ok (.iload_n 2, 1) := by decide +kernel
theorem dX6_begin_60 : decode cX6_begin 60 = .ok (.iaload, 1) := by decide +kernel
theorem dX6_begin_61 : decode cX6_begin 61 = .ok (.iastore, 1) := by decide +kernel
theorem dX6_begin_62 : decode cX6_begin 62 = .ok (.aload_n 0, 1) := by decide +kernel
theorem dX6_begin_63 : decode cX6_begin 63 = .ok (.getfield 33, 3) := by decide +kernel
theorem dX6_begin_66 : decode cX6_begin 66 = .ok (.iload_n 2, 1) := by decide +kernel
theorem dX6_begin_67 : decode cX6_begin 67 = .ok (.iconst 0, 1) := by decide +kernel
theorem dX6_begin_68 : decode cX6_begin 68 = .ok (.iastore, 1) := by decide +kernel
theorem dX6_begin_69 : decode cX6_begin 69 = .ok (.iinc 2 1, 3) := by decide +kernel
theorem dX6_begin_72 : decode cX6_begin 72 = .ok (.goto (-42), 3) := by decide +kernel
theorem dX6_begin_75 : decode cX6_begin 75 = .ok (.return_, 1) := by decide +kernel
theorem dX6_copyFrom_0 : decode cX6_copyFrom 0 = .ok (.aload_n 0, 1) := by decide +kernel
theorem dX6_copyFrom_1 : decode cX6_copyFrom 1 = .ok (.aload_n 1, 1) := by decide +kernel
theorem dX6_copyFrom_2 : decode cX6_copyFrom 2 = .ok (.getfield 36, 3) := by decide +kernel
theorem dX6_copyFrom_5 : decode cX6_copyFrom 5 = .ok (.putfield 36, 3) := by decide +kernel
theorem dX6_copyFrom_8 : decode cX6_copyFrom 8 = .ok (.aload_n 0, 1) := by decide +kernel
theorem dX6_copyFrom_9 : decode cX6_copyFrom 9 = .ok (.aload_n 1, 1) := by decide +kernel
theorem dX6_copyFrom_10 : decode cX6_copyFrom 10 = .ok (.getfield 40, 3) := by decide +kernel
theorem dX6_copyFrom_13 : decode cX6_copyFrom 13 = .ok (.putfield 40, 3) := by decide +kernel
theorem dX6_copyFrom_16 : decode cX6_copyFrom 16 = .ok (.aload_n 0, 1) := by decide +kernel
theorem dX6_copyFrom_17 : decode cX6_copyFrom 17 = .ok (.aload_n 1, 1) := by decide +kernel
theorem dX6_copyFrom_18 : decode cX6_copyFrom 18 = .ok (.getfield 48, 3) := by decide +kernel
theorem dX6_copyFrom_21 : decode cX6_copyFrom 21 = .ok (.putfield 48, 3) := by decide +kernel
theorem dX6_copyFrom_24 : decode cX6_copyFrom 24 = .ok (.aload_n 0, 1) := by decide +kernel
theorem dX6_copyFrom_25 : decode cX6_copyFrom 25 = .ok (.aload_n 1, 1) := by decide +kernel
theorem dX6_copyFrom_26 : decode cX6_copyFrom 26 = .ok (.getfield 51, 3) := by decide +kernel
theorem dX6_copyFrom_29 : decode cX6_copyFrom 29 = .ok (.putfield 51, 3) := by decide +kernel
theorem dX6_copyFrom_32 : decode cX6_copyFrom 32 = .ok (.aload_n 1, 1) := by decide +kernel
theorem dX6_copyFrom_33 : decode cX6_copyFrom 33 = .ok (.getfield 9, 3) := by decide +kernel
theorem dX6_copyFrom_36 : decode cX6_copyFrom 36 = .ok (.iconst 0, 1) := by decide +kernel
theorem dX6_copyFrom_37 : decode cX6_copyFrom 37 = .ok (.aload_n 0, 1) := by decide +kernel
theorem dX6_copyFrom_38 : decode cX6_copyFrom 38 = .ok (.getfield 9, 3) := by decide +kernel
theorem dX6_copyFrom_41 : decode cX6_copyFrom 41 = .ok (.iconst 0, 1) := by decide +kernel
theorem dX6_copyFrom_42 : decode cX6_copyFrom 42 = .ok (.aload_n 0, 1) := by decide +kernel
theorem dX6_copyFrom_43 : decode cX6_copyFrom 43 = .ok (.getfield 9, 3) := by decide +kernel
theorem dX6_copyFrom_46 : decode cX6_copyFrom 46 = .ok (.arraylength, 1) := by decide +kernel
theorem dX6_copyFrom_47 : decode cX6_copyFrom 47 = .ok (.invokestatic 67, 3) := by decide +kernel
theorem dX6_copyFrom_50 : decode cX6_copyFrom 50 = .ok (.aload_n 1, 1) := by decide +kernel
theorem dX6_copyFrom_51 : decode cX6_copyFrom 51 = .ok (.getfield 15, 3) := by decide +kernel
theorem dX6_copyFrom_54 : decode cX6_copyFrom 54 = .ok (.iconst 0, 1) := by decide +kernel
theorem dX6_copyFrom_55 : decode cX6_copyFrom 55 = .ok (.aload_n 0, 1) := by decide +kernel
theorem dX6_copyFrom_56 : decode cX6_copyFrom 56 = .ok (.getfield 15, 3) := by decide +kernel
theorem dX6_copyFrom_59 : decode cX6_copyFrom 59 = .ok (.iconst 0, 1) := by decide +kernel
theorem dX6_copyFrom_60 : decode cX6_copyFrom 60 = .ok (.aload_n 0, 1) := by decide +kernel
theorem dX6_copyFrom_61 : decode cX6_copyFrom 61 = .ok (.getfield 15, 3) := by decide +kernel
theorem dX6_copyFrom_64 : decode cX6_copyFrom 64 = .ok (.arraylength, 1) := by decide +kernel
theorem dX6_copyFrom_65 : decode cX6_copyFrom 65 = .ok (.invokestatic 67, 3) := by decide +kernel
theorem dX6_copyFrom_68 : decode cX6_copyFrom 68 = .ok (.aload_n 1, 1) := by decide +kernel
theorem dX6_copyFrom_69 : decode cX6_copyFrom 69 = .ok (.getfield 18, 3) := by decide +kernel
theorem dX6_copyFrom_72 : decode cX6_copyFrom 72 = .ok (.iconst 0, 1) := by decide +kernel
theorem dX6_copyFrom_73 : decode cX6_copyFrom 73 = .ok (.aload_n 0, 1) := by decide +kernel
theorem dX6_copyFrom_74 : decode cX6_copyFrom 74 = .ok (.getfield 18, 3) := by decide +kernel
theorem dX6_copyFrom_77 : decode cX6_copyFrom 77 = .ok (.iconst 0, 1) := by decide +kernel
theorem dX6_copyFrom_78 : decode cX6_copyFrom 78 = .ok (.aload_n 0, 1) := by decide +kernel
theorem dX6_copyFrom_79 : decode cX6_copyFrom 79 = .ok (.getfield 18, 3) := by decide +kernel
theorem dX6_copyFrom_82 : decode cX6_copyFrom 82 = .ok (.arraylength, 1) := by decide +kernel
theorem dX6_copyFrom_83 : decode cX6_copyFrom 83 = .ok (.invokestatic 67, 3) := by decide +kernel
theorem dX6_copyFrom_86 : decode cX6_copyFrom 86 = .ok (.aload_n 1, 1) := by decide +kernel
theorem dX6_copyFrom_87 : decode cX6_copyFrom 87 = .ok (.getfield 21, 3) := by decide +kernel
theorem dX6_copyFrom_90 : decode cX6_copyFrom 90 = .ok (.iconst 0, 1) := by decide +kernel
theorem dX6_copyFrom_91 : decode cX6_copyFrom 91 = .ok (.aload_n 0, 1) := by decide +kernel
theorem dX6_copyFrom_92 : decode cX6_copyFrom 92 = .ok (.getfield 21, 3) := by decide +kernel
theorem dX6_copyFrom_95 : decode cX6_copyFrom 95 = .ok (.iconst 0, 1) := by decide +kernel
theorem dX6_copyFrom_96 : decode cX6_copyFrom 96 = .ok (.aload_n 0, 1) := by decide +kernel
theorem dX6_copyFrom_97 : decode cX6_copyFrom 97 = .ok (.getfield 21, 3) := by decide +kernel
theorem dX6_copyFrom_100 : decode cX6_copyFrom 100 = .ok (.arraylength, 1) := by decide +kernel
theorem dX6_copyFrom_101 : decode cX6_copyFrom 101 = .ok (.invokestatic 67, 3) := by decide +kernel
theorem dX6_copyFrom_104 : decode cX6_copyFrom 104 = .ok (.aload_n 1, 1) := by decide +kernel
theorem dX6_copyFrom_105 : decode cX6_copyFrom 105 = .ok (.getfield 24, 3) := by decide +kernel
theorem dX6_copyFrom_108 : decode cX6_copyFrom 108 = .ok (.iconst 0, 1) := by decide +kernel
theorem dX6_copyFrom_109 : decode cX6_copyFrom 109 = .ok (.aload_n 0, 1) := by decide +kernel
theorem dX6_copyFrom_110 : decode cX6_copyFrom 110 = .ok (.getfield 24, 3) := by decide +kernel
theorem dX6_copyFrom_113 : decode cX6_copyFrom 113 = .ok (.iconst 0, 1) := by decide +kernel
theorem dX6_copyFrom_114 : decode cX6_copyFrom 114 = .ok (.aload_n 0, 1) := by decide +kernel
theorem dX6_copyFrom_115 : decode cX6_copyFrom 115 = .ok (.getfield 24, 3) := by decide +kernel
theorem dX6_copyFrom_118 : decode cX6_copyFrom 118 = .ok (.arraylength, 1) := by decide +kernel
theorem dX6_copyFrom_119 : decode cX6_copyFrom 119 = .ok (.invokestatic 67, 3) := by decide +kernel
theorem dX6_copyFrom_122 : decode cX6_copyFrom 122 = .ok (.aload_n 1, 1) := by decide +kernel
theorem dX6_copyFrom_123 : decode cX6_copyFrom 123 = .ok (.getfield 27, 3) := by decide +kernel
theorem dX6_copyFrom_126 : decode cX6_copyFrom 126 = .ok (.iconst 0, 1) := by decide +kernel
theorem dX6_copyFrom_127 : decode cX6_copyFrom 127 = .ok (.aload_n 0, 1) := by decide +kernel
theorem dX6_copyFrom_128 : decode cX6_copyFrom 128 = .ok (.getfield 27, 3) := by decide +kernel
theorem dX6_copyFrom_131 : decode cX6_copyFrom 131 = .ok (.iconst 0, 1) := by decide +kernel
theorem dX6_copyFrom_132 : decode cX6_copyFrom 132 = .ok (.aload_n 0, 1) := by decide +kernel
theorem dX6_copyFrom_133 : decode cX6_copyFrom 133 = .ok (.getfield 27, 3) := by decide +kernel
theorem dX6_copyFrom_136 : decode cX6_copyFrom 136 = .ok (.arraylength, 1) := by decide +kernel
theorem dX6_copyFrom_137 : decode cX6_copyFrom 137 = .ok (.invokestatic 67, 3) := by decide +kernel
theorem dX6_copyFrom_140 : decode cX6_copyFrom 140 = .ok (.aload_n 1, 1) := by decide +kernel
theorem dX6_copyFrom_141 : decode cX6_copyFrom 141 = .ok (.getfield 30, 3) := by decide +kernel
theorem dX6_copyFrom_144 : decode cX6_copyFrom 144 = .ok (.iconst 0, 1) := by decide +kernel
theorem dX6_copyFrom_145 : decode cX6_copyFrom 145 = .ok (.aload_n 0, 1) := by decide +kernel
theorem dX6_copyFrom_146 : decode cX6_copyFrom 146 = .ok (.getfield 30, 3) := by decide +kernel
theorem dX6_copyFrom_149 : decode cX6_copyFrom 149 = .ok (.iconst 0, 1) := by decide +kernel
theorem dX6_copyFrom_150 : decode cX6_copyFrom 150 = .ok (.aload_n 0, 1) := by decide +kernel
theorem dX6_copyFrom_151 : decode cX6_copyFrom 151 = .ok (.getfield 30, 3) := by decide +kernel
theorem dX6_copyFrom_154 : decode cX6_copyFrom 154 = .ok (.arraylength, 1) := by decide +kernel
theorem dX6_copyFrom_155 : decode cX6_copyFrom 155 = .ok (.invokestatic 67, 3) := by decide +kernel
theorem dX6_copyFrom_158 : decode cX6_copyFrom 158 = .ok (.aload_n 1, 1) := by decide +kernel
theorem dX6_copyFrom_159 : decode cX6_copyFrom 159 = .ok (.getfield 33, 3) := by decide +kernel
theorem dX6_copyFrom_162 : decode cX6_copyFrom 162 = .ok (.iconst 0, 1) := by decide +kernel
theorem dX6_copyFrom_163 : decode cX6_copyFrom 163 = .ok (.aload_n 0, 1) := by decide +kernel
theorem dX6_copyFrom_164 : decode cX6_copyFrom 164 = .ok (.getfield 33, 3) := by decide +kernel
theorem dX6_copyFrom_167 : decode cX6_copyFrom 167 = .ok (.iconst 0, 1) := by decide +kernel
theorem dX6_copyFrom_168 : decode cX6_copyFrom 168 = .ok (.aload_n 0, 1) := by decide +kernel
theorem dX6_copyFrom_169 : decode cX6_copyFrom 169 = .ok (.getfield 33, 3) := by decide +kernel
theorem dX6_copyFrom_172 : decode cX6_copyFrom 172 = .ok (.arraylength, 1) := by decide +kernel
theorem dX6_copyFrom_173 : decode cX6_copyFrom 173 = .ok (.invokestatic 67, 3) := by decide +kernel
theorem dX6_copyFrom_176 : decode cX6_copyFrom 176 = .ok (.return_, 1) := by decide +kernel
theorem dX6_bareAll_0 : decode cX6_bareAll 0 = .ok (.iconst 0, 1) := by decide +kernel
theorem dX6_bareAll_1 : decode cX6_bareAll 1 = .ok (.istore_n 2, 1) := by decide +kernel
theorem dX6_bareAll_2 : decode cX6_bareAll 2 = .ok (.iload_n 2, 1) := by decide +kernel
theorem dX6_bareAll_3 : decode cX6_bareAll 3 = .ok (.aload_n 1, 1) := by decide +kernel
theorem dX6_bareAll_4 : decode cX6_bareAll 4 = .ok (.getfield 73, 3) := by decide +kernel
theorem dX6_bareAll_7 : decode cX6_bareAll 7 = .ok (.if_icmp .ge 15, 3) := by decide +kernel
theorem dX6_bareAll_10 : decode cX6_bareAll 10 = .ok (.aload_n 0, 1) := by decide +kernel
theorem dX6_bareAll_11 : decode cX6_bareAll 11 = .ok (.aload_n 1, 1) := by decide +kernel
theorem dX6_bareAll_12 : decode cX6_bareAll 12 = .ok (.iload_n 2, 1) := by decide +kernel
theorem dX6_bareAll_13 : decode cX6_bareAll 13 = .ok (.invokevirtual 76, 3) := by decide +kernel
theorem dX6_bareAll_16 : decode cX6_bareAll 16 = .ok (.iinc 2 1, 3) := by decide +kernel
theorem dX6_bareAll_19 : decode cX6_bareAll 19 = .ok (.goto (-17), 3) := by decide +kernel
theorem dX6_bareAll_22 : decode cX6_bareAll 22 = .ok (.return_, 1) := by decide +kernel
theorem dX6_bare_0 : decode cX6_bare 0 = .ok (.iconst 0, 1) := by decide +kernel
theorem dX6_bare_1 : decode cX6_bare 1 = .ok (.istore_n 3, 1) := by decide +kernel
theorem dX6_bare_2 : decode cX6_bare 2 = .ok (.iload_n 3, 1) := by decide +kernel
theorem dX6_bare_3 : decode cX6_bare 3 = .ok (.bipush 8, 2) := by decide +kernel
theorem dX6_bare_5 : decode cX6_bare 5 = .ok (.if_icmp .ge 26, 3) := by decide +kernel
theorem dX6_bare_8 : decode cX6_bare 8 = .ok (.aload_n 0, 1) := by decide +kernel
theorem dX6_bare_9 : decode cX6_bare 9 = .ok (.getfield 9, 3) := by decide +kernel
theorem dX6_bare_12 : decode cX6_bare 12 = .ok (.iload_n 2, 1) := by decide +kernel
theorem dX6_bare_13 : decode cX6_bare 13 = .ok (.bipush 8, 2) := by decide +kernel
theorem dX6_bare_15 : decode cX6_bare 15 = .ok (.imul, 1) := by decide +kernel
theorem dX6_bare_16 : decode cX6_bare 16 = .ok (.iload_n 3, 1) := by decide +kernel
theorem dX6_bare_17 : decode cX6_bare 17 = .ok (.iadd, 1) := by decide +kernel
theorem dX6_bare_18 : decode cX6_bare 18 = .ok (.aload_n 1, 1) := by decide +kernel
theorem dX6_bare_19 : decode cX6_bare 19 = .ok (.getfield 80, 3) := by decide +kernel
theorem dX6_bare_22 : decode cX6_bare 22 = .ok (.iload_n 2, 1) := by decide +kernel
theorem dX6_bare_23 : decode cX6_bare 23 = .ok (.iaload, 1) := by decide +kernel
theorem dX6_bare_24 : decode cX6_bare 24 = .ok (.iastore, 1) := by decide +kernel
theorem dX6_bare_25 : decode cX6_bare 25 = .ok (.iinc 3 1, 3) := by decide +kernel
theorem dX6_bare_28 : decode cX6_bare 28 = .ok (.goto (-26), 3) := by decide +kernel
theorem dX6_bare_31 : decode cX6_bare 31 = .ok (.aload_n 0, 1) := by decide +kernel
theorem dX6_bare_32 : decode cX6_bare 32 = .ok (.iload_n 2, 1) := by decide +kernel
theorem dX6_bare_33 : decode cX6_bare 33 = .ok (.invokevirtual 83, 3) := by decide +kernel
theorem dX6_bare_36 : decode cX6_bare 36 = .ok (.return_, 1) := by decide +kernel
theorem dX6_dropLayers_0 : decode cX6_dropLayers 0 = .ok (.aload_n 0, 1) := by decide +kernel
theorem dX6_dropLayers_1 : decode cX6_dropLayers 1 = .ok (.getfield 18, 3) := by decide +kernel
theorem dX6_dropLayers_4 : decode cX6_dropLayers 4 = .ok (.iload_n 1, 1) := by decide +kernel
theorem dX6_dropLayers_5 : decode cX6_dropLayers 5 = .ok (.iconst 0, 1) := by decide +kernel
theorem dX6_dropLayers_6 : decode cX6_dropLayers 6 = .ok (.iastore, 1) := by decide +kernel
theorem dX6_dropLayers_7 : decode cX6_dropLayers 7 = .ok (.iconst 0, 1) := by decide +kernel
theorem dX6_dropLayers_8 : decode cX6_dropLayers 8 = .ok (.istore_n 2, 1) := by decide +kernel
theorem dX6_dropLayers_9 : decode cX6_dropLayers 9 = .ok (.iload_n 2, 1) := by decide +kernel
theorem dX6_dropLayers_10 : decode cX6_dropLayers 10 = .ok (.bipush 8, 2) := by decide +kernel
theorem dX6_dropLayers_12 : decode cX6_dropLayers 12 = .ok (.if_icmp .ge 21, 3) := by decide +kernel
theorem dX6_dropLayers_15 : decode cX6_dropLayers 15 = .ok (.aload_n 0, 1) := by decide +kernel
theorem dX6_dropLayers_16 : decode cX6_dropLayers 16 = .ok (.getfield 15, 3) := by decide +kernel
theorem dX6_dropLayers_19 : decode cX6_dropLayers 19 = .ok (.iload_n 1, 1) := by decide +kernel
theorem dX6_dropLayers_20 : decode cX6_dropLayers 20 = .ok (.bipush 8, 2) := by decide +kernel
theorem dX6_dropLayers_22 : decode cX6_dropLayers 22 = .ok (.imul, 1) := by decide +kernel
theorem dX6_dropLayers_23 : decode cX6_dropLayers 23 = .ok (.iload_n 2, 1) := by decide +kernel
theorem dX6_dropLayers_24 : decode cX6_dropLayers 24 = .ok (.iadd, 1) := by decide +kernel
theorem dX6_dropLayers_25 : decode cX6_dropLayers 25 = .ok (.iconst 0, 1) := by decide +kernel
theorem dX6_dropLayers_26 : decode cX6_dropLayers 26 = .ok (.iastore, 1) := by decide +kernel
theorem dX6_dropLayers_27 : decode cX6_dropLayers 27 = .ok (.iinc 2 1, 3) := by decide +kernel
theorem dX6_dropLayers_30 : decode cX6_dropLayers 30 = .ok (.goto (-21), 3) := by decide +kernel
theorem dX6_dropLayers_33 : decode cX6_dropLayers 33 = .ok (.return_, 1) := by decide +kernel
theorem dX6_putOn_0 : decode cX6_putOn 0 = .ok (.aload_n 0, 1) := by decide +kernel
theorem dX6_putOn_1 : decode cX6_putOn 1 = .ok (.getfield 18, 3) := by decide +kernel
theorem dX6_putOn_4 : decode cX6_putOn 4 = .ok (.iload_n 1, 1) := by decide +kernel
theorem dX6_putOn_5 : decode cX6_putOn 5 = .ok (.iaload, 1) := by decide +kernel
theorem dX6_putOn_6 : decode cX6_putOn 6 = .ok (.bipush 12, 2) := by decide +kernel
theorem dX6_putOn_8 : decode cX6_putOn 8 = .ok (.if_icmp .lt 5, 3) := by decide +kernel
theorem dX6_putOn_11 : decode cX6_putOn 11 = .ok (.iconst 0, 1) := by decide +kernel
theorem dX6_putOn_12 : decode cX6_putOn 12 = .ok (.ireturn, 1) := by decide +kernel
theorem dX6_putOn_13 : decode cX6_putOn 13 = .ok (.iload_n 1, 1) := by decide +kernel
theorem dX6_putOn_14 : decode cX6_putOn 14 = .ok (.bipush 12, 2) := by decide +kernel
theorem dX6_putOn_16 : decode cX6_putOn 16 = .ok (.imul, 1) := by decide +kernel
theorem dX6_putOn_17 : decode cX6_putOn 17 = .ok (.aload_n 0, 1) := by decide +kernel
theorem dX6_putOn_18 : decode cX6_putOn 18 = .ok (.getfield 18, 3) := by decide +kernel
theorem dX6_putOn_21 : decode cX6_putOn 21 = .ok (.iload_n 1, 1) := by decide +kernel
theorem dX6_putOn_22 : decode cX6_putOn 22 = .ok (.iaload, 1) := by decide +kernel
theorem dX6_putOn_23 : decode cX6_putOn 23 = .ok (.iadd, 1) := by decide +kernel
theorem dX6_putOn_24 : decode cX6_putOn 24 = .ok (.istore 4, 2) := by decide +kernel
theorem dX6_putOn_26 : decode cX6_putOn 26 = .ok (.aload_n 0, 1) := by decide +kernel
theorem dX6_putOn_27 : decode cX6_putOn 27 = .ok (.getfield 21, 3) := by decide +kernel
theorem dX6_putOn_30 : decode cX6_putOn 30 = .ok (.iload 4, 2) := by decide +kernel
theorem dX6_putOn_32 : decode cX6_putOn 32 = .ok (.iload_n 2, 1) := by decide +kernel
theorem dX6_putOn_33 : decode cX6_putOn 33 = .ok (.iastore, 1) := by decide +kernel
theorem dX6_putOn_34 : decode cX6_putOn 34 = .ok (.aload_n 0, 1) := by decide +kernel
theorem dX6_putOn_35 : decode cX6_putOn 35 = .ok (.getfield 24, 3) := by decide +kernel
theorem dX6_putOn_38 : decode cX6_putOn 38 = .ok (.iload 4, 2) := by decide +kernel
theorem dX6_putOn_40 : decode cX6_putOn 40 = .ok (.iload_n 3, 1) := by decide +kernel
theorem dX6_putOn_41 : decode cX6_putOn 41 = .ok (.iastore, 1) := by decide +kernel
theorem dX6_putOn_42 : decode cX6_putOn 42 = .ok (.aload_n 0, 1) := by decide +kernel
theorem dX6_putOn_43 : decode cX6_putOn 43 = .ok (.getfield 15, 3) := by decide +kernel
theorem dX6_putOn_46 : decode cX6_putOn 46 = .ok (.iload_n 1, 1) := by decide +kernel
theorem dX6_putOn_47 : decode cX6_putOn 47 = .ok (.bipush 8, 2) := by decide +kernel
theorem dX6_putOn_49 : decode cX6_putOn 49 = .ok (.imul, 1) := by decide +kernel
theorem dX6_putOn_50 : decode cX6_putOn 50 = .ok (.iload_n 2, 1) := by decide +kernel
theorem dX6_putOn_51 : decode cX6_putOn 51 = .ok (.iadd, 1) := by decide +kernel
theorem dX6_putOn_52 : decode cX6_putOn 52 = .ok (.dup2, 1) := by decide +kernel
theorem dX6_putOn_53 : decode cX6_putOn 53 = .ok (.iaload, 1) := by decide +kernel
theorem dX6_putOn_54 : decode cX6_putOn 54 = .ok (.iload_n 3, 1) := by decide +kernel
theorem dX6_putOn_55 : decode cX6_putOn 55 = .ok (.iadd, 1) := by decide +kernel
theorem dX6_putOn_56 : decode cX6_putOn 56 = .ok (.iastore, 1) := by decide +kernel
theorem dX6_putOn_57 : decode cX6_putOn 57 = .ok (.aload_n 0, 1) := by decide +kernel
theorem dX6_putOn_58 : decode cX6_putOn 58 = .ok (.getfield 18, 3) := by decide +kernel
theorem dX6_putOn_61 : decode cX6_putOn 61 = .ok (.iload_n 1, 1) := by decide +kernel
theorem dX6_putOn_62 : decode cX6_putOn 62 = .ok (.dup2, 1) := by decide +kernel
theorem dX6_putOn_63 : decode cX6_putOn 63 = .ok (.iaload, 1) := by decide +kernel
theorem dX6_putOn_64 : decode cX6_putOn 64 = .ok (.iconst 1, 1) := by decide +kernel
theorem dX6_putOn_65 : decode cX6_putOn 65 = .ok (.iadd, 1) := by decide +kernel
theorem dX6_putOn_66 : decode cX6_putOn 66 = .ok (.iastore, 1) := by decide +kernel
theorem dX6_putOn_67 : decode cX6_putOn 67 = .ok (.iconst 1, 1) := by decide +kernel
theorem dX6_putOn_68 : decode cX6_putOn 68 = .ok (.ireturn, 1) := by decide +kernel
theorem dX6_takeOff_0 : decode cX6_takeOff 0 = .ok (.aload_n 0, 1) := by decide +kernel
theorem dX6_takeOff_1 : decode cX6_takeOff 1 = .ok (.getfield 18, 3) := by decide +kernel
theorem dX6_takeOff_4 : decode cX6_takeOff 4 = .ok (.iload_n 1, 1) := by decide +kernel
theorem dX6_takeOff_5 : decode cX6_takeOff 5 = .ok (.iaload, 1) := by decide +kernel
theorem dX6_takeOff_6 : decode cX6_takeOff 6 = .ok (.iconst 1, 1) := by decide +kernel
theorem dX6_takeOff_7 : decode cX6_takeOff 7 = .ok (.if_icmp .ge 4, 3) := by decide +kernel
theorem dX6_takeOff_10 : decode cX6_takeOff 10 = .ok (.return_, 1) := by decide +kernel
theorem dX6_takeOff_11 : decode cX6_takeOff 11 = .ok (.aload_n 0, 1) := by decide +kernel
theorem dX6_takeOff_12 : decode cX6_takeOff 12 = .ok (.getfield 18, 3) := by decide +kernel
theorem dX6_takeOff_15 : decode cX6_takeOff 15 = .ok (.iload_n 1, 1) := by decide +kernel
theorem dX6_takeOff_16 : decode cX6_takeOff 16 = .ok (.dup2, 1) := by decide +kernel
theorem dX6_takeOff_17 : decode cX6_takeOff 17 = .ok (.iaload, 1) := by decide +kernel
theorem dX6_takeOff_18 : decode cX6_takeOff 18 = .ok (.iconst 1, 1) := by decide +kernel
theorem dX6_takeOff_19 : decode cX6_takeOff 19 = .ok (.isub, 1) := by decide +kernel
theorem dX6_takeOff_20 : decode cX6_takeOff 20 = .ok (.iastore, 1) := by decide +kernel
theorem dX6_takeOff_21 : decode cX6_takeOff 21 = .ok (.iload_n 1, 1) := by decide +kernel
theorem dX6_takeOff_22 : decode cX6_takeOff 22 = .ok (.bipush 12, 2) := by decide +kernel
theorem dX6_takeOff_24 : decode cX6_takeOff 24 = .ok (.imul, 1) := by decide +kernel
theorem dX6_takeOff_25 : decode cX6_takeOff 25 = .ok (.aload_n 0, 1) := by decide +kernel
theorem dX6_takeOff_26 : decode cX6_takeOff 26 = .ok (.getfield 18, 3) := by decide +kernel
theorem dX6_takeOff_29 : decode cX6_takeOff 29 = .ok (.iload_n 1, 1) := by decide +kernel
theorem dX6_takeOff_30 : decode cX6_takeOff 30 = .ok (.iaload, 1) := by decide +kernel
theorem dX6_takeOff_31 : decode cX6_takeOff 31 = .ok (.iadd, 1) := by decide +kernel
theorem dX6_takeOff_32 : decode cX6_takeOff 32 = .ok (.istore_n 2, 1) := by decide +kernel
theorem dX6_takeOff_33 : decode cX6_takeOff 33 = .ok (.aload_n 0, 1) := by decide +kernel
theorem dX6_takeOff_34 : decode cX6_takeOff 34 = .ok (.getfield 15, 3) := by decide +kernel
theorem dX6_takeOff_37 : decode cX6_takeOff 37 = .ok (.iload_n 1, 1) := by decide +kernel
theorem dX6_takeOff_38 : decode cX6_takeOff 38 = .ok (.bipush 8, 2) := by decide +kernel
theorem dX6_takeOff_40 : decode cX6_takeOff 40 = .ok (.imul, 1) := by decide +kernel
theorem dX6_takeOff_41 : decode cX6_takeOff 41 = .ok (.aload_n 0, 1) := by decide +kernel
theorem dX6_takeOff_42 : decode cX6_takeOff 42 = .ok (.getfield 21, 3) := by decide +kernel
theorem dX6_takeOff_45 : decode cX6_takeOff 45 = .ok (.iload_n 2, 1) := by decide +kernel
theorem dX6_takeOff_46 : decode cX6_takeOff 46 = .ok (.iaload, 1) := by decide +kernel
theorem dX6_takeOff_47 : decode cX6_takeOff 47 = .ok (.iadd, 1) := by decide +kernel
theorem dX6_takeOff_48 : decode cX6_takeOff 48 = .ok (.dup2, 1) := by decide +kernel
theorem dX6_takeOff_49 : decode cX6_takeOff 49 = .ok (.iaload, 1) := by decide +kernel
theorem dX6_takeOff_50 : decode cX6_takeOff 50 = .ok (.aload_n 0, 1) := by decide +kernel
theorem dX6_takeOff_51 : decode cX6_takeOff 51 = .ok (.getfield 24, 3) := by decide +kernel
theorem dX6_takeOff_54 : decode cX6_takeOff 54 = .ok (.iload_n 2, 1) := by decide +kernel
theorem dX6_takeOff_55 : decode cX6_takeOff 55 = .ok (.iaload, 1) := by decide +kernel
theorem dX6_takeOff_56 : decode cX6_takeOff 56 = .ok (.isub, 1) := by decide +kernel
theorem dX6_takeOff_57 : decode cX6_takeOff 57 = .ok (.iastore, 1) := by decide +kernel
theorem dX6_takeOff_58 : decode cX6_takeOff 58 = .ok (.return_, 1) := by decide +kernel
theorem dX6_swell_0 : decode cX6_swell 0 = .ok (.iconst 0, 1) := by decide +kernel
theorem dX6_swell_1 : decode cX6_swell 1 = .ok (.istore_n 2, 1) := by decide +kernel
theorem dX6_swell_2 : decode cX6_swell 2 = .ok (.iload_n 2, 1) := by decide +kernel
theorem dX6_swell_3 : decode cX6_swell 3 = .ok (.aload_n 1, 1) := by decide +kernel
theorem dX6_swell_4 : decode cX6_swell 4 = .ok (.getfield 73, 3) := by decide +kernel
theorem dX6_swell_7 : decode cX6_swell 7 = .ok (.bipush 8, 2) := by decide +kernel
theorem dX6_swell_9 : decode cX6_swell 9 = .ok (.imul, 1) := by decide +kernel
theorem dX6_swell_10 : decode cX6_swell 10 = .ok (.if_icmp .ge 31, 3) := by decide +kernel
theorem dX6_swell_13 : decode cX6_swell 13 = .ok (.aload_n 0, 1) := by decide +kernel
theorem dX6_swell_14 : decode cX6_swell 14 = .ok (.getfield 9, 3) := by decide +kernel
theorem dX6_swell_17 : decode cX6_swell 17 = .ok (.iload_n 2, 1) := by decide +kernel
theorem dX6_swell_18 : decode cX6_swell 18 = .ok (.iaload, 1) := by decide +kernel
theorem dX6_swell_19 : decode cX6_swell 19 = .ok (.sipush 999, 3) := by decide +kernel
theorem dX6_swell_22 : decode cX6_swell 22 = .ok (.if_icmp .ge 13, 3) := by decide +kernel
theorem dX6_swell_25 : decode cX6_swell 25 = .ok (.aload_n 0, 1) := by decide +kernel
theorem dX6_swell_26 : decode cX6_swell 26 = .ok (.getfield 9, 3) := by decide +kernel
theorem dX6_swell_29 : decode cX6_swell 29 = .ok (.iload_n 2, 1) := by decide +kernel
theorem dX6_swell_30 : decode cX6_swell 30 = .ok (.dup2, 1) := by decide +kernel
theorem dX6_swell_31 : decode cX6_swell 31 = .ok (.iaload, 1) := by decide +kernel
theorem dX6_swell_32 : decode cX6_swell 32 = .ok (.iconst 1, 1) := by decide +kernel
theorem dX6_swell_33 : decode cX6_swell 33 = .ok (.iadd, 1) := by decide +kernel
theorem dX6_swell_34 : decode cX6_swell 34 = .ok (.iastore, 1) := by decide +kernel
theorem dX6_swell_35 : decode cX6_swell 35 = .ok (.iinc 2 1, 3) := by decide +kernel
theorem dX6_swell_38 : decode cX6_swell 38 = .ok (.goto (-36), 3) := by decide +kernel
theorem dX6_swell_41 : decode cX6_swell 41 = .ok (.return_, 1) := by decide +kernel
theorem dX6_marry_0 : decode cX6_marry 0 = .ok (.aload_n 0, 1) := by decide +kernel
theorem dX6_marry_1 : decode cX6_marry 1 = .ok (.getfield 27, 3) := by decide +kernel
theorem dX6_marry_4 : decode cX6_marry 4 = .ok (.iload_n 1, 1) := by decide +kernel
theorem dX6_marry_5 : decode cX6_marry 5 = .ok (.iaload, 1) := by decide +kernel
theorem dX6_marry_6 : decode cX6_marry 6 = .ok (.istore_n 3, 1) := by decide +kernel
theorem dX6_marry_7 : decode cX6_marry 7 = .ok (.aload_n 0, 1) := by decide +kernel
theorem dX6_marry_8 : decode cX6_marry 8 = .ok (.getfield 27, 3) := by decide +kernel
theorem dX6_marry_11 : decode cX6_marry 11 = .ok (.iload_n 2, 1) := by decide +kernel
theorem dX6_marry_12 : decode cX6_marry 12 = .ok (.iaload, 1) := by decide +kernel
theorem dX6_marry_13 : decode cX6_marry 13 = .ok (.istore 4, 2) := by decide +kernel
theorem dX6_marry_15 : decode cX6_marry 15 = .ok (.iconst 1, 1) := by decide +kernel
theorem dX6_marry_16 : decode cX6_marry 16 = .ok (.iload_n 1, 1) := by decide +kernel
theorem dX6_marry_17 : decode cX6_marry 17 = .ok (.ishl, 1) := by decide +kernel
theorem dX6_marry_18 : decode cX6_marry 18 = .ok (.iconst 1, 1) := by decide +kernel
theorem dX6_marry_19 : decode cX6_marry 19 = .ok (.iload_n 2, 1) := by decide +kernel
theorem dX6_marry_20 : decode cX6_marry 20 = .ok (.ishl, 1) := by decide +kernel
theorem dX6_marry_21 : decode cX6_marry 21 = .ok (.ior, 1) := by decide +kernel
theorem dX6_marry_22 : decode cX6_marry 22 = .ok (.istore 5, 2) := by decide +kernel
theorem dX6_marry_24 : decode cX6_marry 24 = .ok (.aload_n 0, 1) := by decide +kernel
theorem dX6_marry_25 : decode cX6_marry 25 = .ok (.getfield 51, 3) := by decide +kernel
theorem dX6_marry_28 : decode cX6_marry 28 = .ok (.iload 5, 2) := by decide +kernel
theorem dX6_marry_30 : decode cX6_marry 30 = .ok (.iand, 1) := by decide +kernel
theorem dX6_marry_31 : decode cX6_marry 31 = .ok (.ifCond .ne 9, 3) := by decide +kernel
theorem dX6_marry_34 : decode cX6_marry 34 = .ok (.iload_n 3, 1) := by decide +kernel
theorem dX6_marry_35 : decode cX6_marry 35 = .ok (.iload 4, 2) := by decide +kernel
theorem dX6_marry_37 : decode cX6_marry 37 = .ok (.if_icmp .ne 5, 3) := by decide +kernel
theorem dX6_marry_40 : decode cX6_marry 40 = .ok (.iconst 0, 1) := by decide +kernel
theorem dX6_marry_41 : decode cX6_marry 41 = .ok (.ireturn, 1) := by decide +kernel
theorem dX6_marry_42 : decode cX6_marry 42 = .ok (.iconst 0, 1) := by decide +kernel
theorem dX6_marry_43 : decode cX6_marry 43 = .ok (.istore 6, 2) := by decide +kernel
theorem dX6_marry_45 : decode cX6_marry 45 = .ok (.iload 6, 2) := by decide +kernel
theorem dX6_marry_47 : decode cX6_marry 47 = .ok (.bipush 8, 2) := by decide +kernel
theorem dX6_marry_49 : decode cX6_marry 49 = .ok (.if_icmp .ge 30, 3) := by decide +kernel
theorem dX6_marry_52 : decode cX6_marry 52 = .ok (.aload_n 0, 1) := by decide +kernel
theorem dX6_marry_53 : decode cX6_marry 53 = .ok (.getfield 9, 3) := by decide +kernel
theorem dX6_marry_56 : decode cX6_marry 56 = .ok (.iload_n 3, 1) := by decide +kernel
theorem dX6_marry_57 : decode cX6_marry 57 = .ok (.bipush 8, 2) := by decide +kernel
theorem dX6_marry_59 : decode cX6_marry 59 = .ok (.imul, 1) := by decide +kernel
theorem dX6_marry_60 : decode cX6_marry 60 = .ok (.iload 6, 2) := by decide +kernel
theorem dX6_marry_62 : decode cX6_marry 62 = .ok (.iadd, 1) := by decide +kernel
theorem dX6_marry_63 : decode cX6_marry 63 = .ok (.aload_n 0, 1) := by decide +kernel
theorem dX6_marry_64 : decode cX6_marry 64 = .ok (.iload_n 3, 1) := by decide +kernel
theorem dX6_marry_65 : decode cX6_marry 65 = .ok (.iload 4, 2) := by decide +kernel
theorem dX6_marry_67 : decode cX6_marry 67 = .ok (.iload 6, 2) := by decide +kernel
theorem dX6_marry_69 : decode cX6_marry 69 = .ok (.invokevirtual 87, 3) := by decide +kernel
theorem dX6_marry_72 : decode cX6_marry 72 = .ok (.iastore, 1) := by decide +kernel
theorem dX6_marry_73 : decode cX6_marry 73 = .ok (.iinc 6 1, 3) := by decide +kernel
theorem dX6_marry_76 : decode cX6_marry 76 = .ok (.goto (-31), 3) := by decide +kernel
theorem dX6_marry_79 : decode cX6_marry 79 = .ok (.aload_n 0, 1) := by decide +kernel
theorem dX6_marry_80 : decode cX6_marry 80 = .ok (.iload_n 3, 1) := by decide +kernel
theorem dX6_marry_81 : decode cX6_marry 81 = .ok (.invokevirtual 83, 3) := by decide +kernel
theorem dX6_marry_84 : decode cX6_marry 84 = .ok (.aload_n 0, 1) := by decide +kernel
theorem dX6_marry_85 : decode cX6_marry 85 = .ok (.getfield 27, 3) := by decide +kernel
theorem dX6_marry_88 : decode cX6_marry 88 = .ok (.iload_n 2, 1) := by decide +kernel
theorem dX6_marry_89 : decode cX6_marry 89 = .ok (.iload_n 3, 1) := by decide +kernel
theorem dX6_marry_90 : decode cX6_marry 90 = .ok (.iastore, 1) := by decide +kernel
theorem dX6_marry_91 : decode cX6_marry 91 = .ok (.aload_n 0, 1) := by decide +kernel
theorem dX6_marry_92 : decode cX6_marry 92 = .ok (.dup, 1) := by decide +kernel
theorem dX6_marry_93 : decode cX6_marry 93 = .ok (.getfield 51, 3) := by decide +kernel
theorem dX6_marry_96 : decode cX6_marry 96 = .ok (.iload 5, 2) := by decide +kernel
theorem dX6_marry_98 : decode cX6_marry 98 = .ok (.ior, 1) := by decide +kernel
theorem dX6_marry_99 : decode cX6_marry 99 = .ok (.putfield 51, 3) := by decide +kernel
theorem dX6_marry_102 : decode cX6_marry 102 = .ok (.iconst 1, 1) := by decide +kernel
theorem dX6_marry_103 : decode cX6_marry 103 = .ok (.ireturn, 1) := by decide +kernel
theorem dX6_draw_0 : decode cX6_draw 0 = .ok (.aload_n 0, 1) := by decide +kernel
theorem dX6_draw_1 : decode cX6_draw 1 = .ok (.aload_n 0, 1) := by decide +kernel
theorem dX6_draw_2 : decode cX6_draw 2 = .ok (.getfield 48, 3) := by decide +kernel
theorem dX6_draw_5 : decode cX6_draw 5 = .ok (.ldc 91, 2) := by decide +kernel
theorem dX6_draw_7 : decode cX6_draw 7 = .ok (.imul, 1) := by decide +kernel
theorem dX6_draw_8 : decode cX6_draw 8 = .ok (.sipush 12345, 3) := by decide +kernel
theorem dX6_draw_11 : decode cX6_draw 11 = .ok (.iadd, 1) := by decide +kernel
theorem dX6_draw_12 : decode cX6_draw 12 = .ok (.ldc 94, 2) := by decide +kernel
theorem dX6_draw_14 : decode cX6_draw 14 = .ok (.iand, 1) := by decide +kernel
theorem dX6_draw_15 : decode cX6_draw 15 = .ok (.putfield 48, 3) := by decide +kernel
theorem dX6_draw_18 : decode cX6_draw 18 = .ok (.aload_n 0, 1) := by decide +kernel
theorem dX6_draw_19 : decode cX6_draw 19 = .ok (.getfield 48, 3) := by decide +kernel
theorem dX6_draw_22 : decode cX6_draw 22 = .ok (.ldc 95, 2) := by decide +kernel
theorem dX6_draw_24 : decode cX6_draw 24 = .ok (.idiv, 1) := by decide +kernel
theorem dX6_draw_25 : decode cX6_draw 25 = .ok (.ireturn, 1) := by decide +kernel
theorem dX6_lastAt_0 : decode cX6_lastAt 0 = .ok (.aload_n 0, 1) := by decide +kernel
theorem dX6_lastAt_1 : decode cX6_lastAt 1 = .ok (.getfield 9, 3) := by decide +kernel
theorem dX6_lastAt_4 : decode cX6_lastAt 4 = .ok (.iload_n 1, 1) := by decide +kernel
theorem dX6_lastAt_5 : decode cX6_lastAt 5 = .ok (.bipush 8, 2) := by decide +kernel
theorem dX6_lastAt_7 : decode cX6_lastAt 7 = .ok (.imul, 1) := by decide +kernel
theorem dX6_lastAt_8 : decode cX6_lastAt 8 = .ok (.iload_n 2, 1) := by decide +kernel
theorem dX6_lastAt_9 : decode cX6_lastAt 9 = .ok (.iadd, 1) := by decide +kernel
theorem dX6_lastAt_10 : decode cX6_lastAt 10 = .ok (.iaload, 1) := by decide +kernel
theorem dX6_lastAt_11 : decode cX6_lastAt 11 = .ok (.aload_n 0, 1) := by decide +kernel
theorem dX6_lastAt_12 : decode cX6_lastAt 12 = .ok (.getfield 15, 3) := by decide +kernel
theorem dX6_lastAt_15 : decode cX6_lastAt 15 = .ok (.iload_n 1, 1) := by decide +kernel
theorem dX6_lastAt_16 : decode cX6_lastAt 16 = .ok (.bipush 8, 2) := by decide +kernel
theorem dX6_lastAt_18 : decode cX6_lastAt 18 = .ok (.imul, 1) := by decide +kernel
theorem dX6_lastAt_19 : decode cX6_lastAt 19 = .ok (.iload_n 2, 1) := by decide +kernel
theorem dX6_lastAt_20 : decode cX6_lastAt 20 = .ok (.iadd, 1) := by decide +kernel
theorem dX6_lastAt_21 : decode cX6_lastAt 21 = .ok (.iaload, 1) := by decide +kernel
theorem dX6_lastAt_22 : decode cX6_lastAt 22 = .ok (.iadd, 1) := by decide +kernel
theorem dX6_lastAt_23 : decode cX6_lastAt 23 = .ok (.ireturn, 1) := by decide +kernel
theorem dX6_halfWay_0 : decode cX6_halfWay 0 = .ok (.aload_n 0, 1) := by decide +kernel
theorem dX6_halfWay_1 : decode cX6_halfWay 1 = .ok (.iload_n 1, 1) := by decide +kernel
theorem dX6_halfWay_2 : decode cX6_halfWay 2 = .ok (.iload_n 3, 1) := by decide +kernel
theorem dX6_halfWay_3 : decode cX6_halfWay 3 = .ok (.invokevirtual 96, 3) := by decide +kernel
theorem dX6_halfWay_6 : decode cX6_halfWay 6 = .ok (.aload_n 0, 1) := by decide +kernel
theorem dX6_halfWay_7 : decode cX6_halfWay 7 = .ok (.iload_n 2, 1) := by decide +kernel
theorem dX6_halfWay_8 : decode cX6_halfWay 8 = .ok (.iload_n 3, 1) := by decide +kernel
theorem dX6_halfWay_9 : decode cX6_halfWay 9 = .ok (.invokevirtual 96, 3) := by decide +kernel
theorem dX6_halfWay_12 : decode cX6_halfWay 12 = .ok (.iadd, 1) := by decide +kernel
theorem dX6_halfWay_13 : decode cX6_halfWay 13 = .ok (.iconst 2, 1) := by decide +kernel
theorem dX6_halfWay_14 : decode cX6_halfWay 14 = .ok (.idiv, 1) := by decide +kernel
theorem dX6_halfWay_15 : decode cX6_halfWay 15 = .ok (.ireturn, 1) := by decide +kernel
theorem dX6_sumOf_0 : decode cX6_sumOf 0 = .ok (.iconst 0, 1) := by decide +kernel
theorem dX6_sumOf_1 : decode cX6_sumOf 1 = .ok (.istore_n 2, 1) := by decide +kernel
theorem dX6_sumOf_2 : decode cX6_sumOf 2 = .ok (.iconst 0, 1) := by decide +kernel
theorem dX6_sumOf_3 : decode cX6_sumOf 3 = .ok (.istore_n 3, 1) := by decide +kernel
theorem dX6_sumOf_4 : decode cX6_sumOf 4 = .ok (.iload_n 3, 1) := by decide +kernel
theorem dX6_sumOf_5 : decode cX6_sumOf 5 = .ok (.bipush 8, 2) := by decide +kernel
theorem dX6_sumOf_7 : decode cX6_sumOf 7 = .ok (.if_icmp .ge 18, 3) := by decide +kernel
theorem dX6_sumOf_10 : decode cX6_sumOf 10 = .ok (.iload_n 2, 1) := by decide +kernel
theorem dX6_sumOf_11 : decode cX6_sumOf 11 = .ok (.aload_n 0, 1) := by decide +kernel
theorem dX6_sumOf_12 : decode cX6_sumOf 12 = .ok (.iload_n 1, 1) := by decide +kernel
theorem dX6_sumOf_13 : decode cX6_sumOf 13 = .ok (.iload_n 3, 1) := by decide +kernel
theorem dX6_sumOf_14 : decode cX6_sumOf 14 = .ok (.invokevirtual 96, 3) := by decide +kernel
theorem dX6_sumOf_17 : decode cX6_sumOf 17 = .ok (.iadd, 1) := by decide +kernel
theorem dX6_sumOf_18 : decode cX6_sumOf 18 = .ok (.istore_n 2, 1) := by decide +kernel
theorem dX6_sumOf_19 : decode cX6_sumOf 19 = .ok (.iinc 3 1, 3) := by decide +kernel
theorem dX6_sumOf_22 : decode cX6_sumOf 22 = .ok (.goto (-18), 3) := by decide +kernel
theorem dX6_sumOf_25 : decode cX6_sumOf 25 = .ok (.iload_n 2, 1) := by decide +kernel
theorem dX6_sumOf_26 : decode cX6_sumOf 26 = .ok (.ireturn, 1) := by decide +kernel
theorem dX6_differ_0 : decode cX6_differ 0 = .ok (.iconst 0, 1) := by decide +kernel
theorem dX6_differ_1 : decode cX6_differ 1 = .ok (.istore_n 3, 1) := by decide +kernel
theorem dX6_differ_2 : decode cX6_differ 2 = .ok (.iconst 0, 1) := by decide +kernel
theorem dX6_differ_3 : decode cX6_differ 3 = .ok (.istore 4, 2) := by decide +kernel
theorem dX6_differ_5 : decode cX6_differ 5 = .ok (.iload 4, 2) := by decide +kernel
theorem dX6_differ_7 : decode cX6_differ 7 = .ok (.bipush 8, 2) := by decide +kernel
theorem dX6_differ_9 : decode cX6_differ 9 = .ok (.if_icmp .ge 30, 3) := by decide +kernel
theorem dX6_differ_12 : decode cX6_differ 12 = .ok (.iload_n 3, 1) := by decide +kernel
theorem dX6_differ_13 : decode cX6_differ 13 = .ok (.aload_n 0, 1) := by decide +kernel
theorem dX6_differ_14 : decode cX6_differ 14 = .ok (.iload_n 1, 1) := by decide +kernel
theorem dX6_differ_15 : decode cX6_differ 15 = .ok (.iload 4, 2) := by decide +kernel
theorem dX6_differ_17 : decode cX6_differ 17 = .ok (.invokevirtual 96, 3) := by decide +kernel
theorem dX6_differ_20 : decode cX6_differ 20 = .ok (.aload_n 0, 1) := by decide +kernel
theorem dX6_differ_21 : decode cX6_differ 21 = .ok (.iload_n 2, 1) := by decide +kernel
theorem dX6_differ_22 : decode cX6_differ 22 = .ok (.iload 4, 2) := by decide +kernel
theorem dX6_differ_24 : decode cX6_differ 24 = .ok (.invokevirtual 96, 3) := by decide +kernel
theorem dX6_differ_27 : decode cX6_differ 27 = .ok (.isub, 1) := by decide +kernel
theorem dX6_differ_28 : decode cX6_differ 28 = .ok (.invokestatic 100, 3) := by decide +kernel
theorem dX6_differ_31 : decode cX6_differ 31 = .ok (.iadd, 1) := by decide +kernel
theorem dX6_differ_32 : decode cX6_differ 32 = .ok (.istore_n 3, 1) := by decide +kernel
theorem dX6_differ_33 : decode cX6_differ 33 = .ok (.iinc 4 1, 3) := by decide +kernel
theorem dX6_differ_36 : decode cX6_differ 36 = .ok (.goto (-31), 3) := by decide +kernel
theorem dX6_differ_39 : decode cX6_differ 39 = .ok (.iload_n 3, 1) := by decide +kernel
theorem dX6_differ_40 : decode cX6_differ 40 = .ok (.ireturn, 1) := by decide +kernel
theorem dX6_farOf_0 : decode cX6_farOf 0 = .ok (.iconst 0, 1) := by decide +kernel
theorem dX6_farOf_1 : decode cX6_farOf 1 = .ok (.istore 4, 2) := by decide +kernel
theorem dX6_farOf_3 : decode cX6_farOf 3 = .ok (.iconst 0, 1) := by decide +kernel
theorem dX6_farOf_4 : decode cX6_farOf 4 = .ok (.istore 5, 2) := by decide +kernel
theorem dX6_farOf_6 : decode cX6_farOf 6 = .ok (.iload 5, 2) := by decide +kernel
theorem dX6_farOf_8 : decode cX6_farOf 8 = .ok (.bipush 8, 2) := by decide +kernel
theorem dX6_farOf_10 : decode cX6_farOf 10 = .ok (.if_icmp .ge 38, 3) := by decide +kernel
theorem dX6_farOf_13 : decode cX6_farOf 13 = .ok (.iload 4, 2) := by decide +kernel
theorem dX6_farOf_15 : decode cX6_farOf 15 = .ok (.aload_n 1, 1) := by decide +kernel
theorem dX6_farOf_16 : decode cX6_farOf 16 = .ok (.iload_n 2, 1) := by decide +kernel
theorem dX6_farOf_17 : decode cX6_farOf 17 = .ok (.iload 5, 2) := by decide +kernel
theorem dX6_farOf_19 : decode cX6_farOf 19 = .ok (.aload_n 0, 1) := by decide +kernel
theorem dX6_farOf_20 : decode cX6_farOf 20 = .ok (.getfield 30, 3) := by decide +kernel
theorem dX6_farOf_23 : decode cX6_farOf 23 = .ok (.iload_n 2, 1) := by decide +kernel
theorem dX6_farOf_24 : decode cX6_farOf 24 = .ok (.iaload, 1) := by decide +kernel
theorem dX6_farOf_25 : decode cX6_farOf 25 = .ok (.invokevirtual 106, 3) := by decide +kernel
theorem dX6_farOf_28 : decode cX6_farOf 28 = .ok (.aload_n 0, 1) := by decide +kernel
theorem dX6_farOf_29 : decode cX6_farOf 29 = .ok (.iload_n 3, 1) := by decide +kernel
theorem dX6_farOf_30 : decode cX6_farOf 30 = .ok (.iload 5, 2) := by decide +kernel
theorem dX6_farOf_32 : decode cX6_farOf 32 = .ok (.invokevirtual 96, 3) := by decide +kernel
theorem dX6_farOf_35 : decode cX6_farOf 35 = .ok (.isub, 1) := by decide +kernel
theorem dX6_farOf_36 : decode cX6_farOf 36 = .ok (.invokestatic 100, 3) := by decide +kernel
theorem dX6_farOf_39 : decode cX6_farOf 39 = .ok (.iadd, 1) := by decide +kernel
theorem dX6_farOf_40 : decode cX6_farOf 40 = .ok (.istore 4, 2) := by decide +kernel
theorem dX6_farOf_42 : decode cX6_farOf 42 = .ok (.iinc 5 1, 3) := by decide +kernel
theorem dX6_farOf_45 : decode cX6_farOf 45 = .ok (.goto (-39), 3) := by decide +kernel
theorem dX6_farOf_48 : decode cX6_farOf 48 = .ok (.iload 4, 2) := by decide +kernel
theorem dX6_farOf_50 : decode cX6_farOf 50 = .ok (.ireturn, 1) := by decide +kernel
theorem dX6_pinchOf_0 : decode cX6_pinchOf 0 = .ok (.iconst 0, 1) := by decide +kernel
theorem dX6_pinchOf_1 : decode cX6_pinchOf 1 = .ok (.istore_n 3, 1) := by decide +kernel
theorem dX6_pinchOf_2 : decode cX6_pinchOf 2 = .ok (.iconst 0, 1) := by decide +kernel
theorem dX6_pinchOf_3 : decode cX6_pinchOf 3 = .ok (.istore 4, 2) := by decide +kernel
theorem dX6_pinchOf_5 : decode cX6_pinchOf 5 = .ok (.iload 4, 2) := by decide +kernel
theorem dX6_pinchOf_7 : decode cX6_pinchOf 7 = .ok (.bipush 8, 2) := by decide +kernel
theorem dX6_pinchOf_9 : decode cX6_pinchOf 9 = .ok (.if_icmp .ge 42, 3) := by decide +kernel
theorem dX6_pinchOf_12 : decode cX6_pinchOf 12 = .ok (.iload_n 3, 1) := by decide +kernel
theorem dX6_pinchOf_13 : decode cX6_pinchOf 13 = .ok (.iconst 0, 1) := by decide +kernel
theorem dX6_pinchOf_14 : decode cX6_pinchOf 14 = .ok (.aload_n 1, 1) := by decide +kernel
theorem dX6_pinchOf_15 : decode cX6_pinchOf 15 = .ok (.iload_n 2, 1) := by decide +kernel
theorem dX6_pinchOf_16 : decode cX6_pinchOf 16 = .ok (.iload 4, 2) := by decide +kernel
theorem dX6_pinchOf_18 : decode cX6_pinchOf 18 = .ok (.aload_n 0, 1) := by decide +kernel
theorem dX6_pinchOf_19 : decode cX6_pinchOf 19 = .ok (.getfield 30, 3) := by decide +kernel
theorem dX6_pinchOf_22 : decode cX6_pinchOf 22 = .ok (.iload_n 2, 1) := by decide +kernel
theorem dX6_pinchOf_23 : decode cX6_pinchOf 23 = .ok (.iaload, 1) := by decide +kernel
theorem dX6_pinchOf_24 : decode cX6_pinchOf 24 = .ok (.invokevirtual 106, 3) := by decide +kernel
theorem dX6_pinchOf_27 : decode cX6_pinchOf 27 = .ok (.aload_n 0, 1) := by decide +kernel
theorem dX6_pinchOf_28 : decode cX6_pinchOf 28 = .ok (.aload_n 0, 1) := by decide +kernel
theorem dX6_pinchOf_29 : decode cX6_pinchOf 29 = .ok (.getfield 27, 3) := by decide +kernel
theorem dX6_pinchOf_32 : decode cX6_pinchOf 32 = .ok (.iload_n 2, 1) := by decide +kernel
theorem dX6_pinchOf_33 : decode cX6_pinchOf 33 = .ok (.iaload, 1) := by decide +kernel
theorem dX6_pinchOf_34 : decode cX6_pinchOf 34 = .ok (.iload 4, 2) := by decide +kernel
theorem dX6_pinchOf_36 : decode cX6_pinchOf 36 = .ok (.invokevirtual 96, 3) := by decide +kernel
theorem dX6_pinchOf_39 : decode cX6_pinchOf 39 = .ok (.isub, 1) := by decide +kernel
theorem dX6_pinchOf_40 : decode cX6_pinchOf 40 = .ok (.invokestatic 109, 3) := by decide +kernel
theorem dX6_pinchOf_43 : decode cX6_pinchOf 43 = .ok (.iadd, 1) := by decide +kernel
theorem dX6_pinchOf_44 : decode cX6_pinchOf 44 = .ok (.istore_n 3, 1) := by decide +kernel
theorem dX6_pinchOf_45 : decode cX6_pinchOf 45 = .ok (.iinc 4 1, 3) := by decide +kernel
theorem dX6_pinchOf_48 : decode cX6_pinchOf 48 = .ok (.goto (-43), 3) := by decide +kernel
theorem dX6_pinchOf_51 : decode cX6_pinchOf 51 = .ok (.iload_n 3, 1) := by decide +kernel
theorem dX6_pinchOf_52 : decode cX6_pinchOf 52 = .ok (.ireturn, 1) := by decide +kernel
theorem dX6_pinchOfAll_0 : decode cX6_pinchOfAll 0 = .ok (.iconst 0, 1) := by decide +kernel
theorem dX6_pinchOfAll_1 : decode cX6_pinchOfAll 1 = .ok (.istore_n 2, 1) := by decide +kernel
theorem dX6_pinchOfAll_2 : decode cX6_pinchOfAll 2 = .ok (.iconst 0, 1) := by decide +kernel
theorem dX6_pinchOfAll_3 : decode cX6_pinchOfAll 3 = .ok (.istore_n 3, 1) := by decide +kernel
theorem dX6_pinchOfAll_4 : decode cX6_pinchOfAll 4 = .ok (.iload_n 3, 1) := by decide +kernel
theorem dX6_pinchOfAll_5 : decode cX6_pinchOfAll 5 = .ok (.aload_n 1, 1) := by decide +kernel
theorem dX6_pinchOfAll_6 : decode cX6_pinchOfAll 6 = .ok (.getfield 58, 3) := by decide +kernel
theorem dX6_pinchOfAll_9 : decode cX6_pinchOfAll 9 = .ok (.if_icmp .ge 18, 3) := by decide +kernel
theorem dX6_pinchOfAll_12 : decode cX6_pinchOfAll 12 = .ok (.iload_n 2, 1) := by decide +kernel
theorem dX6_pinchOfAll_13 : decode cX6_pinchOfAll 13 = .ok (.aload_n 0, 1) := by decide +kernel
theorem dX6_pinchOfAll_14 : decode cX6_pinchOfAll 14 = .ok (.aload_n 1, 1) := by decide +kernel
theorem dX6_pinchOfAll_15 : decode cX6_pinchOfAll 15 = .ok (.iload_n 3, 1) := by decide +kernel
theorem dX6_pinchOfAll_16 : decode cX6_pinchOfAll 16 = .ok (.invokevirtual 112, 3) := by decide +kernel
theorem dX6_pinchOfAll_19 : decode cX6_pinchOfAll 19 = .ok (.iadd, 1) := by decide +kernel
theorem dX6_pinchOfAll_20 : decode cX6_pinchOfAll 20 = .ok (.istore_n 2, 1) := by decide +kernel
theorem dX6_pinchOfAll_21 : decode cX6_pinchOfAll 21 = .ok (.iinc 3 1, 3) := by decide +kernel
theorem dX6_pinchOfAll_24 : decode cX6_pinchOfAll 24 = .ok (.goto (-20), 3) := by decide +kernel
theorem dX6_pinchOfAll_27 : decode cX6_pinchOfAll 27 = .ok (.iload_n 2, 1) := by decide +kernel
theorem dX6_pinchOfAll_28 : decode cX6_pinchOfAll 28 = .ok (.ireturn, 1) := by decide +kernel
theorem dX6_cornsOfAll_0 : decode cX6_cornsOfAll 0 = .ok (.iconst 0, 1) := by decide +kernel
theorem dX6_cornsOfAll_1 : decode cX6_cornsOfAll 1 = .ok (.istore_n 2, 1) := by decide +kernel
theorem dX6_cornsOfAll_2 : decode cX6_cornsOfAll 2 = .ok (.iconst 0, 1) := by decide +kernel
theorem dX6_cornsOfAll_3 : decode cX6_cornsOfAll 3 = .ok (.istore_n 3, 1) := by decide +kernel
theorem dX6_cornsOfAll_4 : decode cX6_cornsOfAll 4 = .ok (.iload_n 3, 1) := by decide +kernel
theorem dX6_cornsOfAll_5 : decode cX6_cornsOfAll 5 = .ok (.aload_n 1, 1) := by decide +kernel
theorem dX6_cornsOfAll_6 : decode cX6_cornsOfAll 6 = .ok (.getfield 58, 3) := by decide +kernel
theorem dX6_cornsOfAll_9 : decode cX6_cornsOfAll 9 = .ok (.if_icmp .ge 18, 3) := by decide +kernel
theorem dX6_cornsOfAll_12 : decode cX6_cornsOfAll 12 = .ok (.iload_n 2, 1) := by decide +kernel
theorem dX6_cornsOfAll_13 : decode cX6_cornsOfAll 13 = .ok (.aload_n 0, 1) := by decide +kernel
theorem dX6_cornsOfAll_14 : decode cX6_cornsOfAll 14 = .ok (.getfield 33, 3) := by decide +kernel
theorem dX6_cornsOfAll_17 : decode cX6_cornsOfAll 17 = .ok (.iload_n 3, 1) := by decide +kernel
theorem dX6_cornsOfAll_18 : decode cX6_cornsOfAll 18 = .ok (.iaload, 1) := by decide +kernel
theorem dX6_cornsOfAll_19 : decode cX6_cornsOfAll 19 = .ok (.iadd, 1) := by decide +kernel
theorem dX6_cornsOfAll_20 : decode cX6_cornsOfAll 20 = .ok (.istore_n 2, 1) := by decide +kernel
theorem dX6_cornsOfAll_21 : decode cX6_cornsOfAll 21 = .ok (.iinc 3 1, 3) := by decide +kernel
theorem dX6_cornsOfAll_24 : decode cX6_cornsOfAll 24 = .ok (.goto (-20), 3) := by decide +kernel
theorem dX6_cornsOfAll_27 : decode cX6_cornsOfAll 27 = .ok (.iload_n 2, 1) := by decide +kernel
theorem dX6_cornsOfAll_28 : decode cX6_cornsOfAll 28 = .ok (.ireturn, 1) := by decide +kernel
theorem dX6_layersOfAll_0 : decode cX6_layersOfAll 0 = .ok (.iconst 0, 1) := by decide +kernel
theorem dX6_layersOfAll_1 : decode cX6_layersOfAll 1 = .ok (.istore_n 2, 1) := by decide +kernel
theorem dX6_layersOfAll_2 : decode cX6_layersOfAll 2 = .ok (.iconst 0, 1) := by decide +kernel
theorem dX6_layersOfAll_3 : decode cX6_layersOfAll 3 = .ok (.istore_n 3, 1) := by decide +kernel
theorem dX6_layersOfAll_4 : decode cX6_layersOfAll 4 = .ok (.iload_n 3, 1) := by decide +kernel
theorem dX6_layersOfAll_5 : decode cX6_layersOfAll 5 = .ok (.aload_n 1, 1) := by decide +kernel
theorem dX6_layersOfAll_6 : decode cX6_layersOfAll 6 = .ok (.getfield 73, 3) := by decide +kernel
theorem dX6_layersOfAll_9 : decode cX6_layersOfAll 9 = .ok (.if_icmp .ge 18, 3) := by decide +kernel
theorem dX6_layersOfAll_12 : decode cX6_layersOfAll 12 = .ok (.iload_n 2, 1) := by decide +kernel
theorem dX6_layersOfAll_13 : decode cX6_layersOfAll 13 = .ok (.aload_n 0, 1) := by decide +kernel
theorem dX6_layersOfAll_14 : decode cX6_layersOfAll 14 = .ok (.getfield 18, 3) := by decide +kernel
theorem dX6_layersOfAll_17 : decode cX6_layersOfAll 17 = .ok (.iload_n 3, 1) := by decide +kernel
theorem dX6_layersOfAll_18 : decode cX6_layersOfAll 18 = .ok (.iaload, 1) := by decide +kernel
theorem dX6_layersOfAll_19 : decode cX6_layersOfAll 19 = .ok (.iadd, 1) := by decide +kernel
theorem dX6_layersOfAll_20 : decode cX6_layersOfAll 20 = .ok (.istore_n 2, 1) := by decide +kernel
theorem dX6_layersOfAll_21 : decode cX6_layersOfAll 21 = .ok (.iinc 3 1, 3) := by decide +kernel
theorem dX6_layersOfAll_24 : decode cX6_layersOfAll 24 = .ok (.goto (-20), 3) := by decide +kernel
theorem dX6_layersOfAll_27 : decode cX6_layersOfAll 27 = .ok (.iload_n 2, 1) := by decide +kernel
theorem dX6_layersOfAll_28 : decode cX6_layersOfAll 28 = .ok (.ireturn, 1) := by decide +kernel
theorem dX7_append_0 : decode cX7_append 0 = .ok (.bipush 24, 2) := by decide +kernel
theorem dX7_append_2 : decode cX7_append 2 = .ok (.istore_n 2, 1) := by decide +kernel
theorem dX7_append_3 : decode cX7_append 3 = .ok (.iload_n 2, 1) := by decide +kernel
theorem dX7_append_4 : decode cX7_append 4 = .ok (.ifCond .lt 42, 3) := by decide +kernel
theorem dX7_append_7 : decode cX7_append 7 = .ok (.aload_n 0, 1) := by decide +kernel
theorem dX7_append_8 : decode cX7_append 8 = .ok (.getfield 19, 3) := by decide +kernel
theorem dX7_append_11 : decode cX7_append 11 = .ok (.sipush 700, 3) := by decide +kernel
theorem dX7_append_14 : decode cX7_append 14 = .ok (.if_icmp .ge 32, 3) := by decide +kernel
theorem dX7_append_17 : decode cX7_append 17 = .ok (.aload_n 0, 1) := by decide +kernel
theorem dX7_append_18 : decode cX7_append 18 = .ok (.getfield 9, 3) := by decide +kernel
theorem dX7_append_21 : decode cX7_append 21 = .ok (.aload_n 0, 1) := by decide +kernel
theorem dX7_append_22 : decode cX7_append 22 = .ok (.getfield 19, 3) := by decide +kernel
theorem dX7_append_25 : decode cX7_append 25 = .ok (.iload_n 1, 1) := by decide +kernel
theorem dX7_append_26 : decode cX7_append 26 = .ok (.iload_n 2, 1) := by decide +kernel
theorem dX7_append_27 : decode cX7_append 27 = .ok (.ishr, 1) := by decide +kernel
theorem dX7_append_28 : decode cX7_append 28 = .ok (.i2b, 1) := by decide +kernel
theorem dX7_append_29 : decode cX7_append 29 = .ok (.bastore, 1) := by decide +kernel
theorem dX7_append_30 : decode cX7_append 30 = .ok (.aload_n 0, 1) := by decide +kernel
theorem dX7_append_31 : decode cX7_append 31 = .ok (.dup, 1) := by decide +kernel
theorem dX7_append_32 : decode cX7_append 32 = .ok (.getfield 19, 3) := by decide +kernel
theorem dX7_append_35 : decode cX7_append 35 = .ok (.iconst 1, 1) := by decide +kernel
theorem dX7_append_36 : decode cX7_append 36 = .ok (.iadd, 1) := by decide +kernel
theorem dX7_append_37 : decode cX7_append 37 = .ok (.putfield 19, 3) := by decide +kernel
theorem dX7_append_40 : decode cX7_append 40 = .ok (.iinc 2 (-8), 3) := by decide +kernel
theorem dX7_append_43 : decode cX7_append 43 = .ok (.goto (-40), 3) := by decide +kernel
theorem dX7_append_46 : decode cX7_append 46 = .ok (.return_, 1) := by decide +kernel
theorem dX7_start_0 : decode cX7_start 0 = .ok (.aload_n 0, 1) := by decide +kernel
theorem dX7_start_1 : decode cX7_start 1 = .ok (.iload_n 1, 1) := by decide +kernel
theorem dX7_start_2 : decode cX7_start 2 = .ok (.sipush 700, 3) := by decide +kernel
theorem dX7_start_5 : decode cX7_start 5 = .ok (.invokestatic 22, 3) := by decide +kernel
theorem dX7_start_8 : decode cX7_start 8 = .ok (.putfield 28, 3) := by decide +kernel
theorem dX7_start_11 : decode cX7_start 11 = .ok (.aload_n 0, 1) := by decide +kernel
theorem dX7_start_12 : decode cX7_start 12 = .ok (.iconst 0, 1) := by decide +kernel
theorem dX7_start_13 : decode cX7_start 13 = .ok (.putfield 31, 3) := by decide +kernel
theorem dX7_start_16 : decode cX7_start 16 = .ok (.aload_n 0, 1) := by decide +kernel
theorem dX7_start_17 : decode cX7_start 17 = .ok (.invokevirtual 34, 3) := by decide +kernel
theorem dX7_start_20 : decode cX7_start 20 = .ok (.return_, 1) := by decide +kernel
theorem dX7_step_0 : decode cX7_step 0 = .ok (.aload_n 0, 1) := by decide +kernel
theorem dX7_step_1 : decode cX7_step 1 = .ok (.getfield 31, 3) := by decide +kernel
theorem dX7_step_4 : decode cX7_step 4 = .ok (.aload_n 0, 1) := by decide +kernel
theorem dX7_step_5 : decode cX7_step 5 = .ok (.getfield 28, 3) := by decide +kernel
theorem dX7_step_8 : decode cX7_step 8 = .ok (.if_icmp .ge 44, 3) := by decide +kernel
theorem dX7_step_11 : decode cX7_step 11 = .ok (.aload_n 0, 1) := by decide +kernel
theorem dX7_step_12 : decode cX7_step 12 = .ok (.getfield 9, 3) := by decide +kernel
theorem dX7_step_15 : decode cX7_step 15 = .ok (.aload_n 0, 1) := by decide +kernel
theorem dX7_step_16 : decode cX7_step 16 = .ok (.getfield 31, 3) := by decide +kernel
theorem dX7_step_19 : decode cX7_step 19 = .ok (.baload, 1) := by decide +kernel
theorem dX7_step_20 : decode cX7_step 20 = .ok (.bipush 10, 2) := by decide +kernel
theorem dX7_step_22 : decode cX7_step 22 = .ok (.if_icmp .eq 17, 3) := by decide +kernel
theorem dX7_step_25 : decode cX7_step 25 = .ok (.aload_n 0, 1) := by decide +kernel
theorem dX7_step_26 : decode cX7_step 26 = .ok (.getfield 9, 3) := by decide +kernel
theorem dX7_step_29 : decode cX7_step 29 = .ok (.aload_n 0, 1) := by decide +kernel
theorem dX7_step_30 : decode cX7_step 30 = .ok (.getfield 31, 3) := by decide +kernel
theorem dX7_step_33 : decode cX7_step 33 = .ok (.baload, 1) := by decide +kernel
theorem dX7_step_34 : decode cX7_step 34 = .ok (.bipush 32, 2) := by decide +kernel
theorem dX7_step_36 : decode cX7_step 36 = .ok (.if_icmp .ne 16, 3) := by decide +kernel
theorem dX7_step_39 : decode cX7_step 39 = .ok (.aload_n 0, 1) := by decide +kernel
theorem dX7_step_40 : decode cX7_step 40 = .ok (.dup, 1) := by decide +kernel
theorem dX7_step_41 : decode cX7_step 41 = .ok (.getfield 31, 3) := by decide +kernel
theorem dX7_step_44 : decode cX7_step 44 = .ok (.iconst 1, 1) := by decide +kernel
theorem dX7_step_45 : decode cX7_step 45 = .ok (.iadd, 1) := by decide +kernel
theorem dX7_step_46 : decode cX7_step 46 = .ok (.putfield 31, 3) := by decide +kernel
theorem dX7_step_49 : decode cX7_step 49 = .ok (.goto (-49), 3) := by decide +kernel
theorem dX7_step_52 : decode cX7_step 52 = .ok (.aload_n 0, 1) := by decide +kernel
theorem dX7_step_53 : decode cX7_step 53 = .ok (.aload_n 0, 1) := by decide +kernel
theorem dX7_step_54 : decode cX7_step 54 = .ok (.getfield 31, 3) := by decide +kernel
theorem dX7_step_57 : decode cX7_step 57 = .ok (.putfield 37, 3) := by decide +kernel
theorem dX7_step_60 : decode cX7_step 60 = .ok (.aload_n 0, 1) := by decide +kernel
theorem dX7_step_61 : decode cX7_step 61 = .ok (.iconst 0, 1) := by decide +kernel
theorem dX7_step_62 : decode cX7_step 62 = .ok (.putfield 40, 3) := by decide +kernel
theorem dX7_step_65 : decode cX7_step 65 = .ok (.aload_n 0, 1) := by decide +kernel
theorem dX7_step_66 : decode cX7_step 66 = .ok (.getfield 31, 3) := by decide +kernel
theorem dX7_step_69 : decode cX7_step 69 = .ok (.aload_n 0, 1) := by decide +kernel
theorem dX7_step_70 : decode cX7_step 70 = .ok (.getfield 28, 3) := by decide +kernel
theorem dX7_step_73 : decode cX7_step 73 = .ok (.if_icmp .lt 12, 3) := by decide +kernel
theorem dX7_step_76 : decode cX7_step 76 = .ok (.aload_n 0, 1) := by decide +kernel
theorem dX7_step_77 : decode cX7_step 77 = .ok (.bipush 37, 2) := by decide +kernel
theorem dX7_step_79 : decode cX7_step 79 = .ok (.putfield 15, 3) := by decide +kernel
theorem dX7_step_82 : decode cX7_step 82 = .ok (.goto 77, 3) := by decide +kernel
theorem dX7_step_85 : decode cX7_step 85 = .ok (.aload_n 0, 1) := by decide +kernel
theorem dX7_step_86 : decode cX7_step 86 = .ok (.getfield 9, 3) := by decide +kernel
theorem dX7_step_89 : decode cX7_step 89 = .ok (.aload_n 0, 1) := by decide +kernel
theorem dX7_step_90 : decode cX7_step 90 = .ok (.getfield 31, 3) := by decide +kernel
theorem dX7_step_93 : decode cX7_step 93 = .ok (.baload, 1) := by decide +kernel
theorem dX7_step_94 : decode cX7_step 94 = .ok (.invokestatic 43, 3) := by decide +kernel
theorem dX7_step_97 : decode cX7_step 97 = .ok (.ifCond .eq 10, 3) := by decide +kernel
theorem dX7_step_100 : decode cX7_step 100 = .ok (.aload_n 0, 1) := by decide +kernel
theorem dX7_step_101 : decode cX7_step 101 = .ok (.invokevirtual 47, 3) := by decide +kernel
theorem dX7_step_104 : decode cX7_step 104 = .ok (.goto 55, 3) := by decide +kernel
theorem dX7_step_107 : decode cX7_step 107 = .ok (.aload_n 0, 1) := by decide +kernel
theorem dX7_step_108 : decode cX7_step 108 = .ok (.getfield 9, 3) := by decide +kernel
theorem dX7_step_111 : decode cX7_step 111 = .ok (.aload_n 0, 1) := by decide +kernel
theorem dX7_step_112 : decode cX7_step 112 = .ok (.getfield 31, 3) := by decide +kernel
theorem dX7_step_115 : decode cX7_step 115 = .ok (.baload, 1) := by decide +kernel
theorem dX7_step_116 : decode cX7_step 116 = .ok (.invokestatic 50, 3) := by decide +kernel
theorem dX7_step_119 : decode cX7_step 119 = .ok (.ifCond .eq 10, 3) := by decide +kernel
theorem dX7_step_122 : decode cX7_step 122 = .ok (.aload_n 0, 1) := by decide +kernel
theorem dX7_step_123 : decode cX7_step 123 = .ok (.invokevirtual 53, 3) := by decide +kernel
theorem dX7_step_126 : decode cX7_step 126 = .ok (.goto 33, 3) := by decide +kernel
theorem dX7_step_129 : decode cX7_step 129 = .ok (.aload_n 0, 1) := by decide +kernel
theorem dX7_step_130 : decode cX7_step 130 = .ok (.aload_n 0, 1) := by decide +kernel
theorem dX7_step_131 : decode cX7_step 131 = .ok (.getfield 9, 3) := by decide +kernel
theorem dX7_step_134 : decode cX7_step 134 = .ok (.aload_n 0, 1) := by decide +kernel
theorem dX7_step_135 : decode cX7_step 135 = .ok (.getfield 31, 3) := by decide +kernel
theorem dX7_step_138 : decode cX7_step 138 = .ok (.baload, 1) := by decide +kernel
theorem dX7_step_139 : decode cX7_step 139 = .ok (.invokestatic 56, 3) := by decide +kernel
theorem dX7_step_142 : decode cX7_step 142 = .ok (.putfield 15, 3) := by decide +kernel
theorem dX7_step_145 : decode cX7_step 145 = .ok (.aload_n 0, 1) := by decide +kernel
theorem dX7_step_146 : decode cX7_step 146 = .ok (.dup, 1) := by decide +kernel
theorem dX7_step_147 : decode cX7_step 147 = .ok (.getfield 31, 3) := by decide +kernel
theorem dX7_step_150 : decode cX7_step 150 = .ok (.iconst 1, 1) := by decide +kernel
theorem dX7_step_151 : decode cX7_step 151 = .ok (.iadd, 1) := by decide +kernel
theorem dX7_step_152 : decode cX7_step 152 = .ok (.putfield 31, 3) := by decide +kernel
theorem dX7_step_155 : decode cX7_step 155 = .ok (.aload_n 0, 1) := by decide +kernel
theorem dX7_step_156 : decode cX7_step 156 = .ok (.invokevirtual 60, 3) := by decide +kernel
theorem dX7_step_159 : decode cX7_step 159 = .ok (.return_, 1) := by decide +kernel
theorem dX7_isLetter_0 : decode cX7_isLetter 0 = .ok (.iload_n 0, 1) := by decide +kernel
theorem dX7_isLetter_1 : decode cX7_isLetter 1 = .ok (.bipush 97, 2) := by decide +kernel
theorem dX7_isLetter_3 : decode cX7_isLetter 3 = .ok (.if_icmp .lt 13, 3) := by decide +kernel
theorem dX7_isLetter_6 : decode cX7_isLetter 6 = .ok (.iload_n 0, 1) := by decide +kernel
theorem dX7_isLetter_7 : decode cX7_isLetter 7 = .ok (.bipush 122, 2) := by decide +kernel
theorem dX7_isLetter_9 : decode cX7_isLetter 9 = .ok (.if_icmp .gt 7, 3) := by decide +kernel
theorem dX7_isLetter_12 : decode cX7_isLetter 12 = .ok (.iconst 1, 1) := by decide +kernel
theorem dX7_isLetter_13 : decode cX7_isLetter 13 = .ok (.goto 4, 3) := by decide +kernel
theorem dX7_isLetter_16 : decode cX7_isLetter 16 = .ok (.iconst 0, 1) := by decide +kernel
theorem dX7_isLetter_17 : decode cX7_isLetter 17 = .ok (.ireturn, 1) := by decide +kernel
theorem dX7_isDigit_0 : decode cX7_isDigit 0 = .ok (.iload_n 0, 1) := by decide +kernel
theorem dX7_isDigit_1 : decode cX7_isDigit 1 = .ok (.bipush 48, 2) := by decide +kernel
theorem dX7_isDigit_3 : decode cX7_isDigit 3 = .ok (.if_icmp .lt 13, 3) := by decide +kernel
theorem dX7_isDigit_6 : decode cX7_isDigit 6 = .ok (.iload_n 0, 1) := by decide +kernel
theorem dX7_isDigit_7 : decode cX7_isDigit 7 = .ok (.bipush 57, 2) := by decide +kernel
theorem dX7_isDigit_9 : decode cX7_isDigit 9 = .ok (.if_icmp .gt 7, 3) := by decide +kernel
theorem dX7_isDigit_12 : decode cX7_isDigit 12 = .ok (.iconst 1, 1) := by decide +kernel
theorem dX7_isDigit_13 : decode cX7_isDigit 13 = .ok (.goto 4, 3) := by decide +kernel
theorem dX7_isDigit_16 : decode cX7_isDigit 16 = .ok (.iconst 0, 1) := by decide +kernel
theorem dX7_isDigit_17 : decode cX7_isDigit 17 = .ok (.ireturn, 1) := by decide +kernel
theorem dX7_takeWord_0 : decode cX7_takeWord 0 = .ok (.bipush 30, 2) := by decide +kernel
theorem dX7_takeWord_2 : decode cX7_takeWord 2 = .ok (.istore_n 1, 1) := by decide +kernel
theorem dX7_takeWord_3 : decode cX7_takeWord 3 = .ok (.aload_n 0, 1) := by decide +kernel
theorem dX7_takeWord_4 : decode cX7_takeWord 4 = .ok (.getfield 31, 3) := by decide +kernel
theorem dX7_takeWord_7 : decode cX7_takeWord 7 = .ok (.aload_n 0, 1) := by decide +kernel
theorem dX7_takeWord_8 : decode cX7_takeWord 8 = .ok (.getfield 28, 3) := by decide +kernel
theorem dX7_takeWord_11 : decode cX7_takeWord 11 = .ok (.if_icmp .ge 63, 3) := by decide +kernel
theorem dX7_takeWord_14 : decode cX7_takeWord 14 = .ok (.aload_n 0, 1) := by decide +kernel
theorem dX7_takeWord_15 : decode cX7_takeWord 15 = .ok (.getfield 9, 3) := by decide +kernel
theorem dX7_takeWord_18 : decode cX7_takeWord 18 = .ok (.aload_n 0, 1) := by decide +kernel
theorem dX7_takeWord_19 : decode cX7_takeWord 19 = .ok (.getfield 31, 3) := by decide +kernel
theorem dX7_takeWord_22 : decode cX7_takeWord 22 = .ok (.baload, 1) := by decide +kernel
theorem dX7_takeWord_23 : decode cX7_takeWord 23 = .ok (.invokestatic 43, 3) := by decide +kernel
theorem dX7_takeWord_26 : decode cX7_takeWord 26 = .ok (.ifCond .eq 48, 3) := by decide +kernel
theorem dX7_takeWord_29 : decode cX7_takeWord 29 = .ok (.iinc 1 (-5), 3) := by decide +kernel
theorem dX7_takeWord_32 : decode cX7_takeWord 32 = .ok (.iload_n 1, 1) := by decide +kernel
theorem dX7_takeWord_33 : decode cX7_takeWord 33 = .ok (.ifCond .lt 28, 3) := by decide +kernel
theorem dX7_takeWord_36 : decode cX7_takeWord 36 = .ok (.aload_n 0, 1) := by decide +kernel
theorem dX7_takeWord_37 : decode cX7_takeWord 37 = .ok (.dup, 1) := by decide +kernel
theorem dX7_takeWord_38 : decode cX7_takeWord 38 = .ok (.getfield 40, 3) := by decide +kernel
theorem dX7_takeWord_41 : decode cX7_takeWord 41 = .ok (.aload_n 0, 1) := by decide +kernel
theorem dX7_takeWord_42 : decode cX7_takeWord 42 = .ok (.getfield 9, 3) := by decide +kernel
theorem dX7_takeWord_45 : decode cX7_takeWord 45 = .ok (.aload_n 0, 1) := by decide +kernel
theorem dX7_takeWord_46 : decode cX7_takeWord 46 = .ok (.getfield 31, 3) := by decide +kernel
theorem dX7_takeWord_49 : decode cX7_takeWord 49 = .ok (.baload, 1) := by decide +kernel
theorem dX7_takeWord_50 : decode cX7_takeWord 50 = .ok (.bipush 97, 2) := by decide +kernel
theorem dX7_takeWord_52 : decode cX7_takeWord 52 = .ok (.isub, 1) := by decide +kernel
theorem dX7_takeWord_53 : decode cX7_takeWord 53 = .ok (.iconst 1, 1) := by decide +kernel
theorem dX7_takeWord_54 : decode cX7_takeWord 54 = .ok (.iadd, 1) := by decide +kernel
theorem dX7_takeWord_55 : decode cX7_takeWord 55 = .ok (.iload_n 1, 1) := by decide +kernel
theorem dX7_takeWord_56 : decode cX7_takeWord 56 = .ok (.ishl, 1) := by decide +kernel
theorem dX7_takeWord_57 : decode cX7_takeWord 57 = .ok (.ior, 1) := by decide +kernel
theorem dX7_takeWord_58 : decode cX7_takeWord 58 = .ok (.putfield 40, 3) := by decide +kernel
theorem dX7_takeWord_61 : decode cX7_takeWord 61 = .ok (.aload_n 0, 1) := by decide +kernel
theorem dX7_takeWord_62 : decode cX7_takeWord 62 = .ok (.dup, 1) := by decide +kernel
theorem dX7_takeWord_63 : decode cX7_takeWord 63 = .ok (.getfield 31, 3) := by decide +kernel
theorem dX7_takeWord_66 : decode cX7_takeWord 66 = .ok (.iconst 1, 1) := by decide +kernel
theorem dX7_takeWord_67 : decode cX7_takeWord 67 = .ok (.iadd, 1) := by decide +kernel
theorem dX7_takeWord_68 : decode cX7_takeWord 68 = .ok (.putfield 31, 3) := by decide +kernel
theorem dX7_takeWord_71 : decode cX7_takeWord 71 = .ok (.goto (-68), 3) := by decide +kernel
theorem dX7_takeWord_74 : decode cX7_takeWord 74 = .ok (.aload_n 0, 1) := by decide +kernel
theorem dX7_takeWord_75 : decode cX7_takeWord 75 = .ok (.iload_n 1, 1) := by decide +kernel
theorem dX7_takeWord_76 : decode cX7_takeWord 76 = .ok (.ifCond .ge 8, 3) := by decide +kernel
theorem dX7_takeWord_79 : decode cX7_takeWord 79 = .ok (.bipush 38, 2) := by decide +kernel
theorem dX7_takeWord_81 : decode cX7_takeWord 81 = .ok (.goto 10, 3) := by decide +kernel
theorem dX7_takeWord_84 : decode cX7_takeWord 84 = .ok (.aload_n 0, 1) := by decide +kernel
theorem dX7_takeWord_85 : decode cX7_takeWord 85 = .ok (.getfield 40, 3) := by decide +kernel
theorem dX7_takeWord_88 : decode cX7_takeWord 88 = .ok (.invokestatic 63, 3) := by decide +kernel
theorem dX7_takeWord_91 : decode cX7_takeWord 91 = .ok (.putfield 15, 3) := by decide +kernel
theorem dX7_takeWord_94 : decode cX7_takeWord 94 = .ok (.return_, 1) := by decide +kernel
theorem dX7_wordKind_0 : decode cX7_wordKind 0 = .ok (.iconst 0, 1) := by decide +kernel
theorem dX7_wordKind_1 : decode cX7_wordKind 1 = .ok (.istore_n 1, 1) := by decide +kernel
theorem dX7_wordKind_2 : decode cX7_wordKind 2 = .ok (.iconst 0, 1) := by decide +kernel
theorem dX7_wordKind_3 : decode cX7_wordKind 3 = .ok (.istore_n 2, 1) := by decide +kernel
theorem dX7_wordKind_4 : decode cX7_wordKind 4 = .ok (.bipush 30, 2) := by decide +kernel
theorem dX7_wordKind_6 : decode cX7_wordKind 6 = .ok (.istore_n 3, 1) := by decide +kernel
theorem dX7_wordKind_7 : decode cX7_wordKind 7 = .ok (.iconst 0, 1) := by decide +kernel
theorem dX7_wordKind_8 : decode cX7_wordKind 8 = .ok (.istore 4, 2) := by decide +kernel
theorem dX7_wordKind_10 : decode cX7_wordKind 10 = .ok (.iload 4, 2) := by decide +kernel
theorem dX7_wordKind_12 : decode cX7_wordKind 12 = .ok (.ldc 66, 2) := by decide +kernel
theorem dX7_wordKind_14 : decode cX7_wordKind 14 = .ok (.invokevirtual 68, 3) := by decide +kernel
theorem dX7_wordKind_17 : decode cX7_wordKind 17 = .ok (.if_icmp .ge 58, 3) := by decide +kernel
theorem dX7_wordKind_20 : decode cX7_wordKind 20 = .ok (.ldc 66, 2) := by decide +kernel
theorem dX7_wordKind_22 : decode cX7_wordKind 22 = .ok (.iload 4, 2) := by decide +kernel
theorem dX7_wordKind_24 : decode cX7_wordKind 24 = .ok (.invokevirtual 73, 3) := by decide +kernel
theorem dX7_wordKind_27 : decode cX7_wordKind 27 = .ok (.istore 5, 2) := by decide +kernel
theorem dX7_wordKind_29 : decode cX7_wordKind 29 = .ok (.iload 5, 2) := by decide +kernel
theorem dX7_wordKind_31 : decode cX7_wordKind 31 = .ok (.bipush 32, 2) := by decide +kernel
theorem dX7_wordKind_33 : decode cX7_wordKind 33 = .ok (.if_icmp .eq 21, 3) := by decide +kernel
theorem dX7_wordKind_36 : decode cX7_wordKind 36 = .ok (.iinc 3 (-5), 3) := by decide +kernel
theorem dX7_wordKind_39 : decode cX7_wordKind 39 = .ok (.iload_n 2, 1) := by decide +kernel
theorem dX7_wordKind_40 : decode cX7_wordKind 40 = .ok (.iload 5, 2) := by decide +kernel
theorem dX7_wordKind_42 : decode cX7_wordKind 42 = .ok (.bipush 97, 2) := by decide +kernel
theorem dX7_wordKind_44 : decode cX7_wordKind 44 = .ok (.isub, 1) := by decide +kernel
theorem dX7_wordKind_45 : decode cX7_wordKind 45 = .ok (.iconst 1, 1) := by decide +kernel
theorem dX7_wordKind_46 : decode cX7_wordKind 46 = .ok (.iadd, 1) := by decide +kernel
theorem dX7_wordKind_47 : decode cX7_wordKind 47 = .ok (.iload_n 3, 1) := by decide +kernel
theorem dX7_wordKind_48 : decode cX7_wordKind 48 = .ok (.ishl, 1) := by decide +kernel
theorem dX7_wordKind_49 : decode cX7_wordKind 49 = .ok (.ior, 1) := by decide +kernel
theorem dX7_wordKind_50 : decode cX7_wordKind 50 = .ok (.istore_n 2, 1) := by decide +kernel
theorem dX7_wordKind_51 : decode cX7_wordKind 51 = .ok (.goto 18, 3) := by decide +kernel
theorem dX7_wordKind_54 : decode cX7_wordKind 54 = .ok (.iload_n 2, 1) := by decide +kernel
theorem dX7_wordKind_55 : decode cX7_wordKind 55 = .ok (.iload_n 0, 1) := by decide +kernel
theorem dX7_wordKind_56 : decode cX7_wordKind 56 = .ok (.if_icmp .ne 5, 3) := by decide +kernel
theorem dX7_wordKind_59 : decode cX7_wordKind 59 = .ok (.iload_n 1, 1) := by decide +kernel
theorem dX7_wordKind_60 : decode cX7_wordKind 60 = .ok (.ireturn, 1) := by decide +kernel
theorem dX7_wordKind_61 : decode cX7_wordKind 61 = .ok (.iinc 1 1, 3) := by decide +kernel
theorem dX7_wordKind_64 : decode cX7_wordKind 64 = .ok (.iconst 0, 1) := by decide +kernel
theorem dX7_wordKind_65 : decode cX7_wordKind 65 = .ok (.istore_n 2, 1) := by decide +kernel
theorem dX7_wordKind_66 : decode cX7_wordKind 66 = .ok (.bipush 30, 2) := by decide +kernel
theorem dX7_wordKind_68 : decode cX7_wordKind 68 = .ok (.istore_n 3, 1) := by decide +kernel
theorem dX7_wordKind_69 : decode cX7_wordKind 69 = .ok (.iinc 4 1, 3) := by decide +kernel
theorem dX7_wordKind_72 : decode cX7_wordKind 72 = .ok (.goto (-62), 3) := by decide +kernel
theorem dX7_wordKind_75 : decode cX7_wordKind 75 = .ok (.bipush 22, 2) := by decide +kernel
theorem dX7_wordKind_77 : decode cX7_wordKind 77 = .ok (.ireturn, 1) := by decide +kernel
theorem dX7_takeNumber_0 : decode cX7_takeNumber 0 = .ok (.aload_n 0, 1) := by decide +kernel
theorem dX7_takeNumber_1 : decode cX7_takeNumber 1 = .ok (.getfield 31, 3) := by decide +kernel
theorem dX7_takeNumber_4 : decode cX7_takeNumber 4 = .ok (.aload_n 0, 1) := by decide +kernel
theorem dX7_takeNumber_5 : decode cX7_takeNumber 5 = .ok (.getfield 28, 3) := by decide +kernel
theorem dX7_takeNumber_8 : decode cX7_takeNumber 8 = .ok (.if_icmp .ge 60, 3) := by decide +kernel
theorem dX7_takeNumber_11 : decode cX7_takeNumber 11 = .ok (.aload_n 0, 1) := by decide +kernel
theorem dX7_takeNumber_12 : decode cX7_takeNumber 12 = .ok (.getfield 9, 3) := by decide +kernel
theorem dX7_takeNumber_15 : decode cX7_takeNumber 15 = .ok (.aload_n 0, 1) := by decide +kernel
theorem dX7_takeNumber_16 : decode cX7_takeNumber 16 = .ok (.getfield 31, 3) := by decide +kernel
theorem dX7_takeNumber_19 : decode cX7_takeNumber 19 = .ok (.baload, 1) := by decide +kernel
theorem dX7_takeNumber_20 : decode cX7_takeNumber 20 = .ok (.invokestatic 50, 3) := by decide +kernel
theorem dX7_takeNumber_23 : decode cX7_takeNumber 23 = .ok (.ifCond .eq 45, 3) := by decide +kernel
theorem dX7_takeNumber_26 : decode cX7_takeNumber 26 = .ok (.aload_n 0, 1) := by decide +kernel
theorem dX7_takeNumber_27 : decode cX7_takeNumber 27 = .ok (.aload_n 0, 1) := by decide +kernel
theorem dX7_takeNumber_28 : decode cX7_takeNumber 28 = .ok (.getfield 40, 3) := by decide +kernel
theorem dX7_takeNumber_31 : decode cX7_takeNumber 31 = .ok (.bipush 10, 2) := by decide +kernel
theorem dX7_takeNumber_33 : decode cX7_takeNumber 33 = .ok (.imul, 1) := by decide +kernel
theorem dX7_takeNumber_34 : decode cX7_takeNumber 34 = .ok (.aload_n 0, 1) := by decide +kernel
theorem dX7_takeNumber_35 : decode cX7_takeNumber 35 = .ok (.getfield 9, 3) := by decide +kernel
theorem dX7_takeNumber_38 : decode cX7_takeNumber 38 = .ok (.aload_n 0, 1) := by decide +kernel
theorem dX7_takeNumber_39 : decode cX7_takeNumber 39 = .ok (.getfield 31, 3) := by decide +kernel
theorem dX7_takeNumber_42 : decode cX7_takeNumber 42 = .ok (.baload, 1) := by decide +kernel
theorem dX7_takeNumber_43 : decode cX7_takeNumber 43 = .ok (.iadd, 1) := by decide +kernel
theorem dX7_takeNumber_44 : decode cX7_takeNumber 44 = .ok (.bipush 48, 2) := by decide +kernel
theorem dX7_takeNumber_46 : decode cX7_takeNumber 46 = .ok (.isub, 1) := by decide +kernel
theorem dX7_takeNumber_47 : decode cX7_takeNumber 47 = .ok (.ldc 77, 2) := by decide +kernel
theorem dX7_takeNumber_49 : decode cX7_takeNumber 49 = .ok (.invokestatic 22, 3) := by decide +kernel
theorem dX7_takeNumber_52 : decode cX7_takeNumber 52 = .ok (.putfield 40, 3) := by decide +kernel
theorem dX7_takeNumber_55 : decode cX7_takeNumber 55 = .ok (.aload_n 0, 1) := by decide +kernel
theorem dX7_takeNumber_56 : decode cX7_takeNumber 56 = .ok (.dup, 1) := by decide +kernel
theorem dX7_takeNumber_57 : decode cX7_takeNumber 57 = .ok (.getfield 31, 3) := by decide +kernel
theorem dX7_takeNumber_60 : decode cX7_takeNumber 60 = .ok (.iconst 1, 1) := by decide +kernel
theorem dX7_takeNumber_61 : decode cX7_takeNumber 61 = .ok (.iadd, 1) := by decide +kernel
theorem dX7_takeNumber_62 : decode cX7_takeNumber 62 = .ok (.putfield 31, 3) := by decide +kernel
theorem dX7_takeNumber_65 : decode cX7_takeNumber 65 = .ok (.goto (-65), 3) := by decide +kernel
theorem dX7_takeNumber_68 : decode cX7_takeNumber 68 = .ok (.aload_n 0, 1) := by decide +kernel
theorem dX7_takeNumber_69 : decode cX7_takeNumber 69 = .ok (.bipush 23, 2) := by decide +kernel
theorem dX7_takeNumber_71 : decode cX7_takeNumber 71 = .ok (.putfield 15, 3) := by decide +kernel
theorem dX7_takeNumber_74 : decode cX7_takeNumber 74 = .ok (.return_, 1) := by decide +kernel
theorem dX7_sign_0 : decode cX7_sign 0 = .ok (.iload_n 0, 1) := by decide +kernel
theorem dX7_sign_1 : decode cX7_sign 1 = .ok (.tableswitch 137 40 62 #[110, 113, 131, 125, 137, 128, 137, 134, 137, 137, 137, 137, 137, 137, 137, 137, 137, 137, 137, 107, 116, 119, 122], 107) := by decide +kernel
