theorem dX12_game_76 : decode cX12_game 76 = .ok (.if_icmp .gt 68, 3) := by decide +kernel
theorem dX12_game_79 : decode cX12_game 79 = .ok (.iload 4, 2) := by decide +kernel
theorem dX12_game_81 : decode cX12_game 81 = .ok (.aload_n 0, 1) := by decide +kernel
theorem dX12_game_82 : decode cX12_game 82 = .ok (.getfield 115, 3) := by decide +kernel
theorem dX12_game_85 : decode cX12_game 85 = .ok (.iload_n 3, 1) := by decide +kernel
theorem dX12_game_86 : decode cX12_game 86 = .ok (.iaload, 1) := by decide +kernel
theorem dX12_game_87 : decode cX12_game 87 = .ok (.if_icmp .gt 51, 3) := by decide +kernel
theorem dX12_game_90 : decode cX12_game 90 = .ok (.iload_n 2, 1) := by decide +kernel
theorem dX12_game_91 : decode cX12_game 91 = .ok (.aload_n 0, 1) := by decide +kernel
theorem dX12_game_92 : decode cX12_game 92 = .ok (.getfield 115, 3) := by decide +kernel
theorem dX12_game_95 : decode cX12_game 95 = .ok (.iload_n 3, 1) := by decide +kernel
theorem dX12_game_96 : decode cX12_game 96 = .ok (.iaload, 1) := by decide +kernel
theorem dX12_game_97 : decode cX12_game 97 = .ok (.iconst 4, 1) := by decide +kernel
theorem dX12_game_98 : decode cX12_game 98 = .ok (.irem, 1) := by decide +kernel
theorem dX12_game_99 : decode cX12_game 99 = .ok (.ixor, 1) := by decide +kernel
theorem dX12_game_100 : decode cX12_game 100 = .ok (.aload_n 0, 1) := by decide +kernel
theorem dX12_game_101 : decode cX12_game 101 = .ok (.getfield 115, 3) := by decide +kernel
theorem dX12_game_104 : decode cX12_game 104 = .ok (.iload_n 3, 1) := by decide +kernel
theorem dX12_game_105 : decode cX12_game 105 = .ok (.iaload, 1) := by decide +kernel
theorem dX12_game_106 : decode cX12_game 106 = .ok (.iload 4, 2) := by decide +kernel
theorem dX12_game_108 : decode cX12_game 108 = .ok (.isub, 1) := by decide +kernel
theorem dX12_game_109 : decode cX12_game 109 = .ok (.iconst 4, 1) := by decide +kernel
theorem dX12_game_110 : decode cX12_game 110 = .ok (.irem, 1) := by decide +kernel
theorem dX12_game_111 : decode cX12_game 111 = .ok (.ixor, 1) := by decide +kernel
theorem dX12_game_112 : decode cX12_game 112 = .ok (.ifCond .eq 6, 3) := by decide +kernel
theorem dX12_game_115 : decode cX12_game 115 = .ok (.goto 23, 3) := by decide +kernel
theorem dX12_game_118 : decode cX12_game 118 = .ok (.iload_n 1, 1) := by decide +kernel
theorem dX12_game_119 : decode cX12_game 119 = .ok (.ifCond .ne 7, 3) := by decide +kernel
theorem dX12_game_122 : decode cX12_game 122 = .ok (.iconst 0, 1) := by decide +kernel
theorem dX12_game_123 : decode cX12_game 123 = .ok (.goto 14, 3) := by decide +kernel
theorem dX12_game_126 : decode cX12_game 126 = .ok (.iload_n 1, 1) := by decide +kernel
theorem dX12_game_127 : decode cX12_game 127 = .ok (.iconst 1, 1) := by decide +kernel
theorem dX12_game_128 : decode cX12_game 128 = .ok (.if_icmp .ne 7, 3) := by decide +kernel
theorem dX12_game_131 : decode cX12_game 131 = .ok (.iload_n 3, 1) := by decide +kernel
theorem dX12_game_132 : decode cX12_game 132 = .ok (.goto 5, 3) := by decide +kernel
theorem dX12_game_135 : decode cX12_game 135 = .ok (.iload 4, 2) := by decide +kernel
theorem dX12_game_137 : decode cX12_game 137 = .ok (.ireturn, 1) := by decide +kernel
theorem dX12_game_138 : decode cX12_game 138 = .ok (.iinc 4 1, 3) := by decide +kernel
theorem dX12_game_141 : decode cX12_game 141 = .ok (.goto (-68), 3) := by decide +kernel
theorem dX12_game_144 : decode cX12_game 144 = .ok (.iinc 3 1, 3) := by decide +kernel
theorem dX12_game_147 : decode cX12_game 147 = .ok (.goto (-85), 3) := by decide +kernel
theorem dX12_game_150 : decode cX12_game 150 = .ok (.bipush (-2), 2) := by decide +kernel
theorem dX12_game_152 : decode cX12_game 152 = .ok (.ireturn, 1) := by decide +kernel
theorem dX12_hasBy_0 : decode cX12_hasBy 0 = .ok (.iload_n 3, 1) := by decide +kernel
theorem dX12_hasBy_1 : decode cX12_hasBy 1 = .ok (.ifCond .ne 24, 3) := by decide +kernel
theorem dX12_hasBy_4 : decode cX12_hasBy 4 = .ok (.iload 4, 2) := by decide +kernel
theorem dX12_hasBy_6 : decode cX12_hasBy 6 = .ok (.ifCond .ne 15, 3) := by decide +kernel
theorem dX12_hasBy_9 : decode cX12_hasBy 9 = .ok (.bipush 20, 2) := by decide +kernel
theorem dX12_hasBy_11 : decode cX12_hasBy 11 = .ok (.aload_n 0, 1) := by decide +kernel
theorem dX12_hasBy_12 : decode cX12_hasBy 12 = .ok (.getfield 115, 3) := by decide +kernel
theorem dX12_hasBy_15 : decode cX12_hasBy 15 = .ok (.iload_n 1, 1) := by decide +kernel
theorem dX12_hasBy_16 : decode cX12_hasBy 16 = .ok (.iaload, 1) := by decide +kernel
theorem dX12_hasBy_17 : decode cX12_hasBy 17 = .ok (.isub, 1) := by decide +kernel
theorem dX12_hasBy_18 : decode cX12_hasBy 18 = .ok (.goto 6, 3) := by decide +kernel
theorem dX12_hasBy_21 : decode cX12_hasBy 21 = .ok (.iload_n 2, 1) := by decide +kernel
theorem dX12_hasBy_22 : decode cX12_hasBy 22 = .ok (.iconst 4, 1) := by decide +kernel
theorem dX12_hasBy_23 : decode cX12_hasBy 23 = .ok (.idiv, 1) := by decide +kernel
theorem dX12_hasBy_24 : decode cX12_hasBy 24 = .ok (.ireturn, 1) := by decide +kernel
theorem dX12_hasBy_25 : decode cX12_hasBy 25 = .ok (.iload 4, 2) := by decide +kernel
theorem dX12_hasBy_27 : decode cX12_hasBy 27 = .ok (.ifCond .ne 12, 3) := by decide +kernel
theorem dX12_hasBy_30 : decode cX12_hasBy 30 = .ok (.aload_n 0, 1) := by decide +kernel
theorem dX12_hasBy_31 : decode cX12_hasBy 31 = .ok (.getfield 115, 3) := by decide +kernel
theorem dX12_hasBy_34 : decode cX12_hasBy 34 = .ok (.iload_n 1, 1) := by decide +kernel
theorem dX12_hasBy_35 : decode cX12_hasBy 35 = .ok (.iaload, 1) := by decide +kernel
theorem dX12_hasBy_36 : decode cX12_hasBy 36 = .ok (.goto 7, 3) := by decide +kernel
theorem dX12_hasBy_39 : decode cX12_hasBy 39 = .ok (.iload_n 2, 1) := by decide +kernel
theorem dX12_hasBy_40 : decode cX12_hasBy 40 = .ok (.bipush 8, 2) := by decide +kernel
theorem dX12_hasBy_42 : decode cX12_hasBy 42 = .ok (.idiv, 1) := by decide +kernel
theorem dX12_hasBy_43 : decode cX12_hasBy 43 = .ok (.ireturn, 1) := by decide +kernel
theorem dX12_restAt_0 : decode cX12_restAt 0 = .ok (.aload_n 0, 1) := by decide +kernel
theorem dX12_restAt_1 : decode cX12_restAt 1 = .ok (.iload_n 1, 1) := by decide +kernel
theorem dX12_restAt_2 : decode cX12_restAt 2 = .ok (.iload_n 2, 1) := by decide +kernel
theorem dX12_restAt_3 : decode cX12_restAt 3 = .ok (.invokevirtual 528, 3) := by decide +kernel
theorem dX12_restAt_6 : decode cX12_restAt 6 = .ok (.istore 4, 2) := by decide +kernel
theorem dX12_restAt_8 : decode cX12_restAt 8 = .ok (.iconst 0, 1) := by decide +kernel
theorem dX12_restAt_9 : decode cX12_restAt 9 = .ok (.istore 5, 2) := by decide +kernel
theorem dX12_restAt_11 : decode cX12_restAt 11 = .ok (.iconst 0, 1) := by decide +kernel
theorem dX12_restAt_12 : decode cX12_restAt 12 = .ok (.istore 6, 2) := by decide +kernel
theorem dX12_restAt_14 : decode cX12_restAt 14 = .ok (.iload 6, 2) := by decide +kernel
theorem dX12_restAt_16 : decode cX12_restAt 16 = .ok (.iconst 4, 1) := by decide +kernel
theorem dX12_restAt_17 : decode cX12_restAt 17 = .ok (.if_icmp .ge 96, 3) := by decide +kernel
theorem dX12_restAt_20 : decode cX12_restAt 20 = .ok (.iload 6, 2) := by decide +kernel
theorem dX12_restAt_22 : decode cX12_restAt 22 = .ok (.iconst 2, 1) := by decide +kernel
theorem dX12_restAt_23 : decode cX12_restAt 23 = .ok (.idiv, 1) := by decide +kernel
theorem dX12_restAt_24 : decode cX12_restAt 24 = .ok (.istore 7, 2) := by decide +kernel
theorem dX12_restAt_26 : decode cX12_restAt 26 = .ok (.iload 6, 2) := by decide +kernel
theorem dX12_restAt_28 : decode cX12_restAt 28 = .ok (.iconst 2, 1) := by decide +kernel
theorem dX12_restAt_29 : decode cX12_restAt 29 = .ok (.irem, 1) := by decide +kernel
theorem dX12_restAt_30 : decode cX12_restAt 30 = .ok (.istore 8, 2) := by decide +kernel
theorem dX12_restAt_32 : decode cX12_restAt 32 = .ok (.aload_n 0, 1) := by decide +kernel
theorem dX12_restAt_33 : decode cX12_restAt 33 = .ok (.iload_n 1, 1) := by decide +kernel
theorem dX12_restAt_34 : decode cX12_restAt 34 = .ok (.iload 4, 2) := by decide +kernel
theorem dX12_restAt_36 : decode cX12_restAt 36 = .ok (.iconst 1, 1) := by decide +kernel
theorem dX12_restAt_37 : decode cX12_restAt 37 = .ok (.iload 7, 2) := by decide +kernel
theorem dX12_restAt_39 : decode cX12_restAt 39 = .ok (.isub, 1) := by decide +kernel
theorem dX12_restAt_40 : decode cX12_restAt 40 = .ok (.iload 8, 2) := by decide +kernel
theorem dX12_restAt_42 : decode cX12_restAt 42 = .ok (.invokevirtual 543, 3) := by decide +kernel
theorem dX12_restAt_45 : decode cX12_restAt 45 = .ok (.aload_n 0, 1) := by decide +kernel
theorem dX12_restAt_46 : decode cX12_restAt 46 = .ok (.iload_n 1, 1) := by decide +kernel
theorem dX12_restAt_47 : decode cX12_restAt 47 = .ok (.iload 4, 2) := by decide +kernel
theorem dX12_restAt_49 : decode cX12_restAt 49 = .ok (.iload 7, 2) := by decide +kernel
theorem dX12_restAt_51 : decode cX12_restAt 51 = .ok (.iload 8, 2) := by decide +kernel
theorem dX12_restAt_53 : decode cX12_restAt 53 = .ok (.invokevirtual 543, 3) := by decide +kernel
theorem dX12_restAt_56 : decode cX12_restAt 56 = .ok (.if_icmp .gt 51, 3) := by decide +kernel
theorem dX12_restAt_59 : decode cX12_restAt 59 = .ok (.aload_n 0, 1) := by decide +kernel
theorem dX12_restAt_60 : decode cX12_restAt 60 = .ok (.iload_n 2, 1) := by decide +kernel
theorem dX12_restAt_61 : decode cX12_restAt 61 = .ok (.iload 4, 2) := by decide +kernel
theorem dX12_restAt_63 : decode cX12_restAt 63 = .ok (.iconst 1, 1) := by decide +kernel
theorem dX12_restAt_64 : decode cX12_restAt 64 = .ok (.iload 8, 2) := by decide +kernel
theorem dX12_restAt_66 : decode cX12_restAt 66 = .ok (.isub, 1) := by decide +kernel
theorem dX12_restAt_67 : decode cX12_restAt 67 = .ok (.iload 7, 2) := by decide +kernel
theorem dX12_restAt_69 : decode cX12_restAt 69 = .ok (.invokevirtual 543, 3) := by decide +kernel
theorem dX12_restAt_72 : decode cX12_restAt 72 = .ok (.aload_n 0, 1) := by decide +kernel
theorem dX12_restAt_73 : decode cX12_restAt 73 = .ok (.iload_n 2, 1) := by decide +kernel
theorem dX12_restAt_74 : decode cX12_restAt 74 = .ok (.iload 4, 2) := by decide +kernel
theorem dX12_restAt_76 : decode cX12_restAt 76 = .ok (.iload 8, 2) := by decide +kernel
theorem dX12_restAt_78 : decode cX12_restAt 78 = .ok (.iload 7, 2) := by decide +kernel
theorem dX12_restAt_80 : decode cX12_restAt 80 = .ok (.invokevirtual 543, 3) := by decide +kernel
theorem dX12_restAt_83 : decode cX12_restAt 83 = .ok (.if_icmp .le 6, 3) := by decide +kernel
theorem dX12_restAt_86 : decode cX12_restAt 86 = .ok (.goto 21, 3) := by decide +kernel
theorem dX12_restAt_89 : decode cX12_restAt 89 = .ok (.iload 5, 2) := by decide +kernel
theorem dX12_restAt_91 : decode cX12_restAt 91 = .ok (.iload_n 3, 1) := by decide +kernel
theorem dX12_restAt_92 : decode cX12_restAt 92 = .ok (.if_icmp .ne 12, 3) := by decide +kernel
theorem dX12_restAt_95 : decode cX12_restAt 95 = .ok (.bipush 10, 2) := by decide +kernel
theorem dX12_restAt_97 : decode cX12_restAt 97 = .ok (.iload 7, 2) := by decide +kernel
theorem dX12_restAt_99 : decode cX12_restAt 99 = .ok (.imul, 1) := by decide +kernel
theorem dX12_restAt_100 : decode cX12_restAt 100 = .ok (.iload 8, 2) := by decide +kernel
theorem dX12_restAt_102 : decode cX12_restAt 102 = .ok (.iadd, 1) := by decide +kernel
theorem dX12_restAt_103 : decode cX12_restAt 103 = .ok (.ireturn, 1) := by decide +kernel
theorem dX12_restAt_104 : decode cX12_restAt 104 = .ok (.iinc 5 1, 3) := by decide +kernel
theorem dX12_restAt_107 : decode cX12_restAt 107 = .ok (.iinc 6 1, 3) := by decide +kernel
theorem dX12_restAt_110 : decode cX12_restAt 110 = .ok (.goto (-96), 3) := by decide +kernel
theorem dX12_restAt_113 : decode cX12_restAt 113 = .ok (.iload_n 3, 1) := by decide +kernel
theorem dX12_restAt_114 : decode cX12_restAt 114 = .ok (.ifCond .ge 8, 3) := by decide +kernel
theorem dX12_restAt_117 : decode cX12_restAt 117 = .ok (.iload 5, 2) := by decide +kernel
theorem dX12_restAt_119 : decode cX12_restAt 119 = .ok (.goto 5, 3) := by decide +kernel
theorem dX12_restAt_122 : decode cX12_restAt 122 = .ok (.bipush (-2), 2) := by decide +kernel
theorem dX12_restAt_124 : decode cX12_restAt 124 = .ok (.ireturn, 1) := by decide +kernel
theorem dX12_rests_0 : decode cX12_rests 0 = .ok (.aload_n 0, 1) := by decide +kernel
theorem dX12_rests_1 : decode cX12_rests 1 = .ok (.iconst 0, 1) := by decide +kernel
theorem dX12_rests_2 : decode cX12_rests 2 = .ok (.putfield 175, 3) := by decide +kernel
theorem dX12_rests_5 : decode cX12_rests 5 = .ok (.aload_n 0, 1) := by decide +kernel
theorem dX12_rests_6 : decode cX12_rests 6 = .ok (.iload_n 1, 1) := by decide +kernel
theorem dX12_rests_7 : decode cX12_rests 7 = .ok (.iload_n 2, 1) := by decide +kernel
theorem dX12_rests_8 : decode cX12_rests 8 = .ok (.invokevirtual 525, 3) := by decide +kernel
theorem dX12_rests_11 : decode cX12_rests 11 = .ok (.ifCond .eq 13, 3) := by decide +kernel
theorem dX12_rests_14 : decode cX12_rests 14 = .ok (.aload_n 0, 1) := by decide +kernel
theorem dX12_rests_15 : decode cX12_rests 15 = .ok (.iload_n 1, 1) := by decide +kernel
theorem dX12_rests_16 : decode cX12_rests 16 = .ok (.iload_n 2, 1) := by decide +kernel
theorem dX12_rests_17 : decode cX12_rests 17 = .ok (.iconst (-1), 1) := by decide +kernel
theorem dX12_rests_18 : decode cX12_rests 18 = .ok (.invokevirtual 546, 3) := by decide +kernel
theorem dX12_rests_21 : decode cX12_rests 21 = .ok (.goto 4, 3) := by decide +kernel
theorem dX12_rests_24 : decode cX12_rests 24 = .ok (.iconst (-1), 1) := by decide +kernel
theorem dX12_rests_25 : decode cX12_rests 25 = .ok (.ireturn, 1) := by decide +kernel
theorem dX12_rest_0 : decode cX12_rest 0 = .ok (.aload_n 0, 1) := by decide +kernel
theorem dX12_rest_1 : decode cX12_rest 1 = .ok (.iconst 0, 1) := by decide +kernel
theorem dX12_rest_2 : decode cX12_rest 2 = .ok (.putfield 175, 3) := by decide +kernel
theorem dX12_rest_5 : decode cX12_rest 5 = .ok (.aload_n 0, 1) := by decide +kernel
theorem dX12_rest_6 : decode cX12_rest 6 = .ok (.iload_n 1, 1) := by decide +kernel
theorem dX12_rest_7 : decode cX12_rest 7 = .ok (.iload_n 2, 1) := by decide +kernel
theorem dX12_rest_8 : decode cX12_rest 8 = .ok (.invokevirtual 525, 3) := by decide +kernel
theorem dX12_rest_11 : decode cX12_rest 11 = .ok (.ifCond .eq 17, 3) := by decide +kernel
theorem dX12_rest_14 : decode cX12_rest 14 = .ok (.iload_n 3, 1) := by decide +kernel
theorem dX12_rest_15 : decode cX12_rest 15 = .ok (.ifCond .lt 13, 3) := by decide +kernel
theorem dX12_rest_18 : decode cX12_rest 18 = .ok (.aload_n 0, 1) := by decide +kernel
theorem dX12_rest_19 : decode cX12_rest 19 = .ok (.iload_n 1, 1) := by decide +kernel
theorem dX12_rest_20 : decode cX12_rest 20 = .ok (.iload_n 2, 1) := by decide +kernel
theorem dX12_rest_21 : decode cX12_rest 21 = .ok (.iload_n 3, 1) := by decide +kernel
theorem dX12_rest_22 : decode cX12_rest 22 = .ok (.invokevirtual 546, 3) := by decide +kernel
theorem dX12_rest_25 : decode cX12_rest 25 = .ok (.goto 4, 3) := by decide +kernel
theorem dX12_rest_28 : decode cX12_rest 28 = .ok (.iconst (-1), 1) := by decide +kernel
theorem dX12_rest_29 : decode cX12_rest 29 = .ok (.ireturn, 1) := by decide +kernel
theorem dX12_dry_0 : decode cX12_dry 0 = .ok (.aload_n 0, 1) := by decide +kernel
theorem dX12_dry_1 : decode cX12_dry 1 = .ok (.iconst 0, 1) := by decide +kernel
theorem dX12_dry_2 : decode cX12_dry 2 = .ok (.putfield 175, 3) := by decide +kernel
theorem dX12_dry_5 : decode cX12_dry 5 = .ok (.iload_n 1, 1) := by decide +kernel
theorem dX12_dry_6 : decode cX12_dry 6 = .ok (.iconst 0, 1) := by decide +kernel
theorem dX12_dry_7 : decode cX12_dry 7 = .ok (.bipush 6, 2) := by decide +kernel
theorem dX12_dry_9 : decode cX12_dry 9 = .ok (.invokestatic 220, 3) := by decide +kernel
theorem dX12_dry_12 : decode cX12_dry 12 = .ok (.ifCond .eq 12, 3) := by decide +kernel
theorem dX12_dry_15 : decode cX12_dry 15 = .ok (.iload_n 2, 1) := by decide +kernel
theorem dX12_dry_16 : decode cX12_dry 16 = .ok (.iconst 0, 1) := by decide +kernel
theorem dX12_dry_17 : decode cX12_dry 17 = .ok (.iconst 1, 1) := by decide +kernel
theorem dX12_dry_18 : decode cX12_dry 18 = .ok (.invokestatic 220, 3) := by decide +kernel
theorem dX12_dry_21 : decode cX12_dry 21 = .ok (.ifCond .ne 7, 3) := by decide +kernel
theorem dX12_dry_24 : decode cX12_dry 24 = .ok (.ldc2_w 549, 3) := by decide +kernel
theorem dX12_dry_27 : decode cX12_dry 27 = .ok (.lreturn, 1) := by decide +kernel
theorem dX12_dry_28 : decode cX12_dry 28 = .ok (.lconst 1, 1) := by decide +kernel
theorem dX12_dry_29 : decode cX12_dry 29 = .ok (.lstore_n 3, 1) := by decide +kernel
theorem dX12_dry_30 : decode cX12_dry 30 = .ok (.lconst 1, 1) := by decide +kernel
theorem dX12_dry_31 : decode cX12_dry 31 = .ok (.lstore 5, 2) := by decide +kernel
theorem dX12_dry_33 : decode cX12_dry 33 = .ok (.iconst 0, 1) := by decide +kernel
theorem dX12_dry_34 : decode cX12_dry 34 = .ok (.istore 7, 2) := by decide +kernel
theorem dX12_dry_36 : decode cX12_dry 36 = .ok (.iload 7, 2) := by decide +kernel
theorem dX12_dry_38 : decode cX12_dry 38 = .ok (.iload_n 1, 1) := by decide +kernel
theorem dX12_dry_39 : decode cX12_dry 39 = .ok (.if_icmp .ge 30, 3) := by decide +kernel
theorem dX12_dry_42 : decode cX12_dry 42 = .ok (.lload_n 3, 1) := by decide +kernel
theorem dX12_dry_43 : decode cX12_dry 43 = .ok (.bipush 100, 2) := by decide +kernel
theorem dX12_dry_45 : decode cX12_dry 45 = .ok (.aload_n 0, 1) := by decide +kernel
theorem dX12_dry_46 : decode cX12_dry 46 = .ok (.getfield 24, 3) := by decide +kernel
theorem dX12_dry_49 : decode cX12_dry 49 = .ok (.iconst 0, 1) := by decide +kernel
theorem dX12_dry_50 : decode cX12_dry 50 = .ok (.iaload, 1) := by decide +kernel
theorem dX12_dry_51 : decode cX12_dry 51 = .ok (.isub, 1) := by decide +kernel
theorem dX12_dry_52 : decode cX12_dry 52 = .ok (.i2l, 1) := by decide +kernel
theorem dX12_dry_53 : decode cX12_dry 53 = .ok (.lmul, 1) := by decide +kernel
theorem dX12_dry_54 : decode cX12_dry 54 = .ok (.lstore_n 3, 1) := by decide +kernel
theorem dX12_dry_55 : decode cX12_dry 55 = .ok (.lload 5, 2) := by decide +kernel
theorem dX12_dry_57 : decode cX12_dry 57 = .ok (.ldc2_w 551, 3) := by decide +kernel
theorem dX12_dry_60 : decode cX12_dry 60 = .ok (.lmul, 1) := by decide +kernel
theorem dX12_dry_61 : decode cX12_dry 61 = .ok (.lstore 5, 2) := by decide +kernel
theorem dX12_dry_63 : decode cX12_dry 63 = .ok (.iinc 7 1, 3) := by decide +kernel
theorem dX12_dry_66 : decode cX12_dry 66 = .ok (.goto (-30), 3) := by decide +kernel
theorem dX12_dry_69 : decode cX12_dry 69 = .ok (.lload 5, 2) := by decide +kernel
theorem dX12_dry_71 : decode cX12_dry 71 = .ok (.lstore 7, 2) := by decide +kernel
theorem dX12_dry_73 : decode cX12_dry 73 = .ok (.lload_n 3, 1) := by decide +kernel
theorem dX12_dry_74 : decode cX12_dry 74 = .ok (.lstore 9, 2) := by decide +kernel
theorem dX12_dry_76 : decode cX12_dry 76 = .ok (.lload 9, 2) := by decide +kernel
theorem dX12_dry_78 : decode cX12_dry 78 = .ok (.lconst 0, 1) := by decide +kernel
theorem dX12_dry_79 : decode cX12_dry 79 = .ok (.lcmp, 1) := by decide +kernel
theorem dX12_dry_80 : decode cX12_dry 80 = .ok (.ifCond .eq 21, 3) := by decide +kernel
theorem dX12_dry_83 : decode cX12_dry 83 = .ok (.lload 7, 2) := by decide +kernel
theorem dX12_dry_85 : decode cX12_dry 85 = .ok (.lload 9, 2) := by decide +kernel
theorem dX12_dry_87 : decode cX12_dry 87 = .ok (.lrem, 1) := by decide +kernel
theorem dX12_dry_88 : decode cX12_dry 88 = .ok (.lstore 11, 2) := by decide +kernel
theorem dX12_dry_90 : decode cX12_dry 90 = .ok (.lload 9, 2) := by decide +kernel
theorem dX12_dry_92 : decode cX12_dry 92 = .ok (.lstore 7, 2) := by decide +kernel
theorem dX12_dry_94 : decode cX12_dry 94 = .ok (.lload 11, 2) := by decide +kernel
theorem dX12_dry_96 : decode cX12_dry 96 = .ok (.lstore 9, 2) := by decide +kernel
theorem dX12_dry_98 : decode cX12_dry 98 = .ok (.goto (-22), 3) := by decide +kernel
theorem dX12_dry_101 : decode cX12_dry 101 = .ok (.iload_n 2, 1) := by decide +kernel
theorem dX12_dry_102 : decode cX12_dry 102 = .ok (.ifCond .ne 10, 3) := by decide +kernel
theorem dX12_dry_105 : decode cX12_dry 105 = .ok (.lload_n 3, 1) := by decide +kernel
theorem dX12_dry_106 : decode cX12_dry 106 = .ok (.lload 7, 2) := by decide +kernel
theorem dX12_dry_108 : decode cX12_dry 108 = .ok (.ldiv, 1) := by decide +kernel
theorem dX12_dry_109 : decode cX12_dry 109 = .ok (.goto 8, 3) := by decide +kernel
theorem dX12_dry_112 : decode cX12_dry 112 = .ok (.lload 5, 2) := by decide +kernel
theorem dX12_dry_114 : decode cX12_dry 114 = .ok (.lload 7, 2) := by decide +kernel
theorem dX12_dry_116 : decode cX12_dry 116 = .ok (.ldiv, 1) := by decide +kernel
theorem dX12_dry_117 : decode cX12_dry 117 = .ok (.lreturn, 1) := by decide +kernel
theorem dX12_sum_0 : decode cX12_sum 0 = .ok (.aload_n 0, 1) := by decide +kernel
theorem dX12_sum_1 : decode cX12_sum 1 = .ok (.iconst 0, 1) := by decide +kernel
theorem dX12_sum_2 : decode cX12_sum 2 = .ok (.putfield 175, 3) := by decide +kernel
theorem dX12_sum_5 : decode cX12_sum 5 = .ok (.aload_n 0, 1) := by decide +kernel
theorem dX12_sum_6 : decode cX12_sum 6 = .ok (.iload_n 1, 1) := by decide +kernel
theorem dX12_sum_7 : decode cX12_sum 7 = .ok (.invokevirtual 498, 3) := by decide +kernel
theorem dX12_sum_10 : decode cX12_sum 10 = .ok (.ifCond .eq 12, 3) := by decide +kernel
theorem dX12_sum_13 : decode cX12_sum 13 = .ok (.aload_n 0, 1) := by decide +kernel
theorem dX12_sum_14 : decode cX12_sum 14 = .ok (.iconst 0, 1) := by decide +kernel
theorem dX12_sum_15 : decode cX12_sum 15 = .ok (.iload_n 1, 1) := by decide +kernel
theorem dX12_sum_16 : decode cX12_sum 16 = .ok (.invokevirtual 519, 3) := by decide +kernel
theorem dX12_sum_19 : decode cX12_sum 19 = .ok (.goto 6, 3) := by decide +kernel
theorem dX12_sum_22 : decode cX12_sum 22 = .ok (.ldc_w 501, 3) := by decide +kernel
theorem dX12_sum_25 : decode cX12_sum 25 = .ok (.ireturn, 1) := by decide +kernel
theorem dX12_settle_0 : decode cX12_settle 0 = .ok (.aload_n 0, 1) := by decide +kernel
theorem dX12_settle_1 : decode cX12_settle 1 = .ok (.iconst 0, 1) := by decide +kernel
theorem dX12_settle_2 : decode cX12_settle 2 = .ok (.putfield 175, 3) := by decide +kernel
theorem dX12_settle_5 : decode cX12_settle 5 = .ok (.aload_n 0, 1) := by decide +kernel
theorem dX12_settle_6 : decode cX12_settle 6 = .ok (.iload_n 1, 1) := by decide +kernel
theorem dX12_settle_7 : decode cX12_settle 7 = .ok (.iload_n 2, 1) := by decide +kernel
theorem dX12_settle_8 : decode cX12_settle 8 = .ok (.invokevirtual 525, 3) := by decide +kernel
theorem dX12_settle_11 : decode cX12_settle 11 = .ok (.ifCond .eq 33, 3) := by decide +kernel
theorem dX12_settle_14 : decode cX12_settle 14 = .ok (.iload_n 3, 1) := by decide +kernel
theorem dX12_settle_15 : decode cX12_settle 15 = .ok (.iconst 0, 1) := by decide +kernel
theorem dX12_settle_16 : decode cX12_settle 16 = .ok (.bipush 7, 2) := by decide +kernel
theorem dX12_settle_18 : decode cX12_settle 18 = .ok (.invokestatic 220, 3) := by decide +kernel
theorem dX12_settle_21 : decode cX12_settle 21 = .ok (.ifCond .eq 23, 3) := by decide +kernel
theorem dX12_settle_24 : decode cX12_settle 24 = .ok (.aload_n 0, 1) := by decide +kernel
theorem dX12_settle_25 : decode cX12_settle 25 = .ok (.iconst 0, 1) := by decide +kernel
theorem dX12_settle_26 : decode cX12_settle 26 = .ok (.iload_n 1, 1) := by decide +kernel
theorem dX12_settle_27 : decode cX12_settle 27 = .ok (.iload_n 3, 1) := by decide +kernel
theorem dX12_settle_28 : decode cX12_settle 28 = .ok (.invokevirtual 440, 3) := by decide +kernel
theorem dX12_settle_31 : decode cX12_settle 31 = .ok (.aload_n 0, 1) := by decide +kernel
theorem dX12_settle_32 : decode cX12_settle 32 = .ok (.iconst 0, 1) := by decide +kernel
theorem dX12_settle_33 : decode cX12_settle 33 = .ok (.iload_n 2, 1) := by decide +kernel
theorem dX12_settle_34 : decode cX12_settle 34 = .ok (.iload_n 3, 1) := by decide +kernel
theorem dX12_settle_35 : decode cX12_settle 35 = .ok (.invokevirtual 440, 3) := by decide +kernel
theorem dX12_settle_38 : decode cX12_settle 38 = .ok (.iadd, 1) := by decide +kernel
theorem dX12_settle_39 : decode cX12_settle 39 = .ok (.iconst 2, 1) := by decide +kernel
theorem dX12_settle_40 : decode cX12_settle 40 = .ok (.idiv, 1) := by decide +kernel
theorem dX12_settle_41 : decode cX12_settle 41 = .ok (.goto 6, 3) := by decide +kernel
theorem dX12_settle_44 : decode cX12_settle 44 = .ok (.ldc_w 501, 3) := by decide +kernel
theorem dX12_settle_47 : decode cX12_settle 47 = .ok (.ireturn, 1) := by decide +kernel
theorem dX12_knee_0 : decode cX12_knee 0 = .ok (.aload_n 0, 1) := by decide +kernel
theorem dX12_knee_1 : decode cX12_knee 1 = .ok (.iconst 0, 1) := by decide +kernel
theorem dX12_knee_2 : decode cX12_knee 2 = .ok (.putfield 175, 3) := by decide +kernel
theorem dX12_knee_5 : decode cX12_knee 5 = .ok (.bipush (-2), 2) := by decide +kernel
theorem dX12_knee_7 : decode cX12_knee 7 = .ok (.istore_n 1, 1) := by decide +kernel
theorem dX12_knee_8 : decode cX12_knee 8 = .ok (.iconst 0, 1) := by decide +kernel
theorem dX12_knee_9 : decode cX12_knee 9 = .ok (.istore_n 2, 1) := by decide +kernel
theorem dX12_knee_10 : decode cX12_knee 10 = .ok (.iload_n 2, 1) := by decide +kernel
theorem dX12_knee_11 : decode cX12_knee 11 = .ok (.aload_n 0, 1) := by decide +kernel
theorem dX12_knee_12 : decode cX12_knee 12 = .ok (.getfield 258, 3) := by decide +kernel
theorem dX12_knee_15 : decode cX12_knee 15 = .ok (.if_icmp .ge 34, 3) := by decide +kernel
theorem dX12_knee_18 : decode cX12_knee 18 = .ok (.iload_n 1, 1) := by decide +kernel
theorem dX12_knee_19 : decode cX12_knee 19 = .ok (.ifCond .lt 18, 3) := by decide +kernel
theorem dX12_knee_22 : decode cX12_knee 22 = .ok (.aload_n 0, 1) := by decide +kernel
theorem dX12_knee_23 : decode cX12_knee 23 = .ok (.getfield 115, 3) := by decide +kernel
theorem dX12_knee_26 : decode cX12_knee 26 = .ok (.iload_n 2, 1) := by decide +kernel
theorem dX12_knee_27 : decode cX12_knee 27 = .ok (.iaload, 1) := by decide +kernel
theorem dX12_knee_28 : decode cX12_knee 28 = .ok (.aload_n 0, 1) := by decide +kernel
theorem dX12_knee_29 : decode cX12_knee 29 = .ok (.getfield 115, 3) := by decide +kernel
theorem dX12_knee_32 : decode cX12_knee 32 = .ok (.iload_n 1, 1) := by decide +kernel
theorem dX12_knee_33 : decode cX12_knee 33 = .ok (.iaload, 1) := by decide +kernel
theorem dX12_knee_34 : decode cX12_knee 34 = .ok (.if_icmp .le 7, 3) := by decide +kernel
theorem dX12_knee_37 : decode cX12_knee 37 = .ok (.iload_n 2, 1) := by decide +kernel
theorem dX12_knee_38 : decode cX12_knee 38 = .ok (.goto 4, 3) := by decide +kernel
theorem dX12_knee_41 : decode cX12_knee 41 = .ok (.iload_n 1, 1) := by decide +kernel
theorem dX12_knee_42 : decode cX12_knee 42 = .ok (.istore_n 1, 1) := by decide +kernel
theorem dX12_knee_43 : decode cX12_knee 43 = .ok (.iinc 2 1, 3) := by decide +kernel
theorem dX12_knee_46 : decode cX12_knee 46 = .ok (.goto (-36), 3) := by decide +kernel
theorem dX12_knee_49 : decode cX12_knee 49 = .ok (.iload_n 1, 1) := by decide +kernel
theorem dX12_knee_50 : decode cX12_knee 50 = .ok (.ireturn, 1) := by decide +kernel
theorem dX12_walkers_0 : decode cX12_walkers 0 = .ok (.aload_n 0, 1) := by decide +kernel
theorem dX12_walkers_1 : decode cX12_walkers 1 = .ok (.iconst 0, 1) := by decide +kernel
theorem dX12_walkers_2 : decode cX12_walkers 2 = .ok (.putfield 175, 3) := by decide +kernel
theorem dX12_walkers_5 : decode cX12_walkers 5 = .ok (.iconst 0, 1) := by decide +kernel
theorem dX12_walkers_6 : decode cX12_walkers 6 = .ok (.istore_n 1, 1) := by decide +kernel
theorem dX12_walkers_7 : decode cX12_walkers 7 = .ok (.iconst 0, 1) := by decide +kernel
theorem dX12_walkers_8 : decode cX12_walkers 8 = .ok (.istore_n 2, 1) := by decide +kernel
theorem dX12_walkers_9 : decode cX12_walkers 9 = .ok (.iload_n 2, 1) := by decide +kernel
theorem dX12_walkers_10 : decode cX12_walkers 10 = .ok (.aload_n 0, 1) := by decide +kernel
theorem dX12_walkers_11 : decode cX12_walkers 11 = .ok (.getfield 261, 3) := by decide +kernel
theorem dX12_walkers_14 : decode cX12_walkers 14 = .ok (.if_icmp .ge 28, 3) := by decide +kernel
theorem dX12_walkers_17 : decode cX12_walkers 17 = .ok (.iload_n 1, 1) := by decide +kernel
theorem dX12_walkers_18 : decode cX12_walkers 18 = .ok (.aload_n 0, 1) := by decide +kernel
theorem dX12_walkers_19 : decode cX12_walkers 19 = .ok (.iconst 0, 1) := by decide +kernel
theorem dX12_walkers_20 : decode cX12_walkers 20 = .ok (.iload_n 2, 1) := by decide +kernel
theorem dX12_walkers_21 : decode cX12_walkers 21 = .ok (.invokevirtual 443, 3) := by decide +kernel
theorem dX12_walkers_24 : decode cX12_walkers 24 = .ok (.ifCond .ne 9, 3) := by decide +kernel
theorem dX12_walkers_27 : decode cX12_walkers 27 = .ok (.iconst 1, 1) := by decide +kernel
theorem dX12_walkers_28 : decode cX12_walkers 28 = .ok (.iload_n 2, 1) := by decide +kernel
theorem dX12_walkers_29 : decode cX12_walkers 29 = .ok (.ishl, 1) := by decide +kernel
theorem dX12_walkers_30 : decode cX12_walkers 30 = .ok (.goto 4, 3) := by decide +kernel
theorem dX12_walkers_33 : decode cX12_walkers 33 = .ok (.iconst 0, 1) := by decide +kernel
theorem dX12_walkers_34 : decode cX12_walkers 34 = .ok (.ior, 1) := by decide +kernel
theorem dX12_walkers_35 : decode cX12_walkers 35 = .ok (.istore_n 1, 1) := by decide +kernel
theorem dX12_walkers_36 : decode cX12_walkers 36 = .ok (.iinc 2 1, 3) := by decide +kernel
theorem dX12_walkers_39 : decode cX12_walkers 39 = .ok (.goto (-30), 3) := by decide +kernel
theorem dX12_walkers_42 : decode cX12_walkers 42 = .ok (.iload_n 1, 1) := by decide +kernel
theorem dX12_walkers_43 : decode cX12_walkers 43 = .ok (.ireturn, 1) := by decide +kernel
theorem dX12_barest_0 : decode cX12_barest 0 = .ok (.aload_n 0, 1) := by decide +kernel
theorem dX12_barest_1 : decode cX12_barest 1 = .ok (.iconst 0, 1) := by decide +kernel
theorem dX12_barest_2 : decode cX12_barest 2 = .ok (.putfield 175, 3) := by decide +kernel
theorem dX12_barest_5 : decode cX12_barest 5 = .ok (.bipush (-2), 2) := by decide +kernel
theorem dX12_barest_7 : decode cX12_barest 7 = .ok (.istore_n 1, 1) := by decide +kernel
theorem dX12_barest_8 : decode cX12_barest 8 = .ok (.iconst 0, 1) := by decide +kernel
theorem dX12_barest_9 : decode cX12_barest 9 = .ok (.istore_n 2, 1) := by decide +kernel
theorem dX12_barest_10 : decode cX12_barest 10 = .ok (.iload_n 2, 1) := by decide +kernel
theorem dX12_barest_11 : decode cX12_barest 11 = .ok (.aload_n 0, 1) := by decide +kernel
theorem dX12_barest_12 : decode cX12_barest 12 = .ok (.getfield 261, 3) := by decide +kernel
theorem dX12_barest_15 : decode cX12_barest 15 = .ok (.if_icmp .ge 54, 3) := by decide +kernel
theorem dX12_barest_18 : decode cX12_barest 18 = .ok (.iload_n 1, 1) := by decide +kernel
theorem dX12_barest_19 : decode cX12_barest 19 = .ok (.ifCond .lt 38, 3) := by decide +kernel
theorem dX12_barest_22 : decode cX12_barest 22 = .ok (.bipush 8, 2) := by decide +kernel
theorem dX12_barest_24 : decode cX12_barest 24 = .ok (.aload_n 0, 1) := by decide +kernel
theorem dX12_barest_25 : decode cX12_barest 25 = .ok (.getfield 39, 3) := by decide +kernel
theorem dX12_barest_28 : decode cX12_barest 28 = .ok (.iload_n 2, 1) := by decide +kernel
theorem dX12_barest_29 : decode cX12_barest 29 = .ok (.iaload, 1) := by decide +kernel
theorem dX12_barest_30 : decode cX12_barest 30 = .ok (.imul, 1) := by decide +kernel
theorem dX12_barest_31 : decode cX12_barest 31 = .ok (.aload_n 0, 1) := by decide +kernel
theorem dX12_barest_32 : decode cX12_barest 32 = .ok (.getfield 121, 3) := by decide +kernel
theorem dX12_barest_35 : decode cX12_barest 35 = .ok (.iload_n 2, 1) := by decide +kernel
theorem dX12_barest_36 : decode cX12_barest 36 = .ok (.iaload, 1) := by decide +kernel
theorem dX12_barest_37 : decode cX12_barest 37 = .ok (.iadd, 1) := by decide +kernel
theorem dX12_barest_38 : decode cX12_barest 38 = .ok (.bipush 8, 2) := by decide +kernel
theorem dX12_barest_40 : decode cX12_barest 40 = .ok (.aload_n 0, 1) := by decide +kernel
theorem dX12_barest_41 : decode cX12_barest 41 = .ok (.getfield 39, 3) := by decide +kernel
theorem dX12_barest_44 : decode cX12_barest 44 = .ok (.iload_n 1, 1) := by decide +kernel
theorem dX12_barest_45 : decode cX12_barest 45 = .ok (.iaload, 1) := by decide +kernel
theorem dX12_barest_46 : decode cX12_barest 46 = .ok (.imul, 1) := by decide +kernel
theorem dX12_barest_47 : decode cX12_barest 47 = .ok (.aload_n 0, 1) := by decide +kernel
theorem dX12_barest_48 : decode cX12_barest 48 = .ok (.getfield 121, 3) := by decide +kernel
theorem dX12_barest_51 : decode cX12_barest 51 = .ok (.iload_n 1, 1) := by decide +kernel
theorem dX12_barest_52 : decode cX12_barest 52 = .ok (.iaload, 1) := by decide +kernel
theorem dX12_barest_53 : decode cX12_barest 53 = .ok (.iadd, 1) := by decide +kernel
theorem dX12_barest_54 : decode cX12_barest 54 = .ok (.if_icmp .ge 7, 3) := by decide +kernel
theorem dX12_barest_57 : decode cX12_barest 57 = .ok (.iload_n 2, 1) := by decide +kernel
theorem dX12_barest_58 : decode cX12_barest 58 = .ok (.goto 4, 3) := by decide +kernel
theorem dX12_barest_61 : decode cX12_barest 61 = .ok (.iload_n 1, 1) := by decide +kernel
theorem dX12_barest_62 : decode cX12_barest 62 = .ok (.istore_n 1, 1) := by decide +kernel
theorem dX12_barest_63 : decode cX12_barest 63 = .ok (.iinc 2 1, 3) := by decide +kernel
theorem dX12_barest_66 : decode cX12_barest 66 = .ok (.goto (-56), 3) := by decide +kernel
theorem dX12_barest_69 : decode cX12_barest 69 = .ok (.iload_n 1, 1) := by decide +kernel
theorem dX12_barest_70 : decode cX12_barest 70 = .ok (.ireturn, 1) := by decide +kernel
theorem dX12_noted_0 : decode cX12_noted 0 = .ok (.aload_n 0, 1) := by decide +kernel
theorem dX12_noted_1 : decode cX12_noted 1 = .ok (.getfield 148, 3) := by decide +kernel
theorem dX12_noted_4 : decode cX12_noted 4 = .ok (.iconst 4, 1) := by decide +kernel
theorem dX12_noted_5 : decode cX12_noted 5 = .ok (.aload_n 0, 1) := by decide +kernel
theorem dX12_noted_6 : decode cX12_noted 6 = .ok (.getfield 398, 3) := by decide +kernel
theorem dX12_noted_9 : decode cX12_noted 9 = .ok (.imul, 1) := by decide +kernel
theorem dX12_noted_10 : decode cX12_noted 10 = .ok (.iload_n 1, 1) := by decide +kernel
theorem dX12_noted_11 : decode cX12_noted 11 = .ok (.iastore, 1) := by decide +kernel
theorem dX12_noted_12 : decode cX12_noted 12 = .ok (.aload_n 0, 1) := by decide +kernel
theorem dX12_noted_13 : decode cX12_noted 13 = .ok (.getfield 148, 3) := by decide +kernel
theorem dX12_noted_16 : decode cX12_noted 16 = .ok (.iconst 4, 1) := by decide +kernel
theorem dX12_noted_17 : decode cX12_noted 17 = .ok (.aload_n 0, 1) := by decide +kernel
theorem dX12_noted_18 : decode cX12_noted 18 = .ok (.getfield 398, 3) := by decide +kernel
theorem dX12_noted_21 : decode cX12_noted 21 = .ok (.imul, 1) := by decide +kernel
theorem dX12_noted_22 : decode cX12_noted 22 = .ok (.iconst 1, 1) := by decide +kernel
theorem dX12_noted_23 : decode cX12_noted 23 = .ok (.iadd, 1) := by decide +kernel
theorem dX12_noted_24 : decode cX12_noted 24 = .ok (.iload_n 2, 1) := by decide +kernel
theorem dX12_noted_25 : decode cX12_noted 25 = .ok (.iastore, 1) := by decide +kernel
theorem dX12_noted_26 : decode cX12_noted 26 = .ok (.aload_n 0, 1) := by decide +kernel
theorem dX12_noted_27 : decode cX12_noted 27 = .ok (.getfield 148, 3) := by decide +kernel
theorem dX12_noted_30 : decode cX12_noted 30 = .ok (.iconst 4, 1) := by decide +kernel
theorem dX12_noted_31 : decode cX12_noted 31 = .ok (.aload_n 0, 1) := by decide +kernel
theorem dX12_noted_32 : decode cX12_noted 32 = .ok (.getfield 398, 3) := by decide +kernel
theorem dX12_noted_35 : decode cX12_noted 35 = .ok (.imul, 1) := by decide +kernel
theorem dX12_noted_36 : decode cX12_noted 36 = .ok (.iconst 2, 1) := by decide +kernel
theorem dX12_noted_37 : decode cX12_noted 37 = .ok (.iadd, 1) := by decide +kernel
theorem dX12_noted_38 : decode cX12_noted 38 = .ok (.iload_n 3, 1) := by decide +kernel
theorem dX12_noted_39 : decode cX12_noted 39 = .ok (.iastore, 1) := by decide +kernel
theorem dX12_noted_40 : decode cX12_noted 40 = .ok (.aload_n 0, 1) := by decide +kernel
theorem dX12_noted_41 : decode cX12_noted 41 = .ok (.getfield 148, 3) := by decide +kernel
theorem dX12_noted_44 : decode cX12_noted 44 = .ok (.iconst 4, 1) := by decide +kernel
theorem dX12_noted_45 : decode cX12_noted 45 = .ok (.aload_n 0, 1) := by decide +kernel
theorem dX12_noted_46 : decode cX12_noted 46 = .ok (.getfield 398, 3) := by decide +kernel
theorem dX12_noted_49 : decode cX12_noted 49 = .ok (.imul, 1) := by decide +kernel
theorem dX12_noted_50 : decode cX12_noted 50 = .ok (.iconst 3, 1) := by decide +kernel
theorem dX12_noted_51 : decode cX12_noted 51 = .ok (.iadd, 1) := by decide +kernel
theorem dX12_noted_52 : decode cX12_noted 52 = .ok (.iload 4, 2) := by decide +kernel
theorem dX12_noted_54 : decode cX12_noted 54 = .ok (.iastore, 1) := by decide +kernel
theorem dX12_noted_55 : decode cX12_noted 55 = .ok (.aload_n 0, 1) := by decide +kernel
theorem dX12_noted_56 : decode cX12_noted 56 = .ok (.dup, 1) := by decide +kernel
theorem dX12_noted_57 : decode cX12_noted 57 = .ok (.getfield 398, 3) := by decide +kernel
theorem dX12_noted_60 : decode cX12_noted 60 = .ok (.iconst 1, 1) := by decide +kernel
theorem dX12_noted_61 : decode cX12_noted 61 = .ok (.iadd, 1) := by decide +kernel
theorem dX12_noted_62 : decode cX12_noted 62 = .ok (.putfield 398, 3) := by decide +kernel
theorem dX12_noted_65 : decode cX12_noted 65 = .ok (.aload_n 0, 1) := by decide +kernel
theorem dX12_noted_66 : decode cX12_noted 66 = .ok (.getfield 398, 3) := by decide +kernel
theorem dX12_noted_69 : decode cX12_noted 69 = .ok (.iconst 1, 1) := by decide +kernel
theorem dX12_noted_70 : decode cX12_noted 70 = .ok (.isub, 1) := by decide +kernel
theorem dX12_noted_71 : decode cX12_noted 71 = .ok (.ireturn, 1) := by decide +kernel
theorem dX12_see_0 : decode cX12_see 0 = .ok (.aload_n 0, 1) := by decide +kernel
theorem dX12_see_1 : decode cX12_see 1 = .ok (.iconst 0, 1) := by decide +kernel
theorem dX12_see_2 : decode cX12_see 2 = .ok (.putfield 175, 3) := by decide +kernel
theorem dX12_see_5 : decode cX12_see 5 = .ok (.aload_n 0, 1) := by decide +kernel
theorem dX12_see_6 : decode cX12_see 6 = .ok (.getfield 398, 3) := by decide +kernel
theorem dX12_see_9 : decode cX12_see 9 = .ok (.bipush 24, 2) := by decide +kernel
theorem dX12_see_11 : decode cX12_see 11 = .ok (.if_icmp .eq 31, 3) := by decide +kernel
theorem dX12_see_14 : decode cX12_see 14 = .ok (.iload_n 1, 1) := by decide +kernel
theorem dX12_see_15 : decode cX12_see 15 = .ok (.iconst 1, 1) := by decide +kernel
theorem dX12_see_16 : decode cX12_see 16 = .ok (.bipush 60, 2) := by decide +kernel
theorem dX12_see_18 : decode cX12_see 18 = .ok (.invokestatic 220, 3) := by decide +kernel
theorem dX12_see_21 : decode cX12_see 21 = .ok (.ifCond .eq 21, 3) := by decide +kernel
theorem dX12_see_24 : decode cX12_see 24 = .ok (.aload_n 0, 1) := by decide +kernel
theorem dX12_see_25 : decode cX12_see 25 = .ok (.iload_n 2, 1) := by decide +kernel
theorem dX12_see_26 : decode cX12_see 26 = .ok (.invokevirtual 492, 3) := by decide +kernel
theorem dX12_see_29 : decode cX12_see 29 = .ok (.ifCond .eq 13, 3) := by decide +kernel
theorem dX12_see_32 : decode cX12_see 32 = .ok (.iload_n 3, 1) := by decide +kernel
theorem dX12_see_33 : decode cX12_see 33 = .ok (.iconst 0, 1) := by decide +kernel
theorem dX12_see_34 : decode cX12_see 34 = .ok (.bipush 99, 2) := by decide +kernel
theorem dX12_see_36 : decode cX12_see 36 = .ok (.invokestatic 220, 3) := by decide +kernel
theorem dX12_see_39 : decode cX12_see 39 = .ok (.ifCond .ne 7, 3) := by decide +kernel
theorem dX12_see_42 : decode cX12_see 42 = .ok (.iconst (-1), 1) := by decide +kernel
theorem dX12_see_43 : decode cX12_see 43 = .ok (.goto 20, 3) := by decide +kernel
theorem dX12_see_46 : decode cX12_see 46 = .ok (.aload_n 0, 1) := by decide +kernel
theorem dX12_see_47 : decode cX12_see 47 = .ok (.iload_n 1, 1) := by decide +kernel
theorem dX12_see_48 : decode cX12_see 48 = .ok (.iload_n 2, 1) := by decide +kernel
theorem dX12_see_49 : decode cX12_see 49 = .ok (.iload_n 3, 1) := by decide +kernel
theorem dX12_see_50 : decode cX12_see 50 = .ok (.iload 4, 2) := by decide +kernel
theorem dX12_see_52 : decode cX12_see 52 = .ok (.ifCond .eq 7, 3) := by decide +kernel
theorem dX12_see_55 : decode cX12_see 55 = .ok (.iconst 1, 1) := by decide +kernel
theorem dX12_see_56 : decode cX12_see 56 = .ok (.goto 4, 3) := by decide +kernel
theorem dX12_see_59 : decode cX12_see 59 = .ok (.iconst 0, 1) := by decide +kernel
theorem dX12_see_60 : decode cX12_see 60 = .ok (.invokevirtual 553, 3) := by decide +kernel
theorem dX12_see_63 : decode cX12_see 63 = .ok (.ireturn, 1) := by decide +kernel
theorem dX12_strike_0 : decode cX12_strike 0 = .ok (.aload_n 0, 1) := by decide +kernel
theorem dX12_strike_1 : decode cX12_strike 1 = .ok (.iconst 0, 1) := by decide +kernel
theorem dX12_strike_2 : decode cX12_strike 2 = .ok (.putfield 175, 3) := by decide +kernel
theorem dX12_strike_5 : decode cX12_strike 5 = .ok (.aload_n 0, 1) := by decide +kernel
theorem dX12_strike_6 : decode cX12_strike 6 = .ok (.getfield 398, 3) := by decide +kernel
theorem dX12_strike_9 : decode cX12_strike 9 = .ok (.bipush 24, 2) := by decide +kernel
theorem dX12_strike_11 : decode cX12_strike 11 = .ok (.if_icmp .eq 15, 3) := by decide +kernel
theorem dX12_strike_14 : decode cX12_strike 14 = .ok (.iload_n 1, 1) := by decide +kernel
theorem dX12_strike_15 : decode cX12_strike 15 = .ok (.ifCond .lt 11, 3) := by decide +kernel
theorem dX12_strike_18 : decode cX12_strike 18 = .ok (.iload_n 1, 1) := by decide +kernel
theorem dX12_strike_19 : decode cX12_strike 19 = .ok (.aload_n 0, 1) := by decide +kernel
theorem dX12_strike_20 : decode cX12_strike 20 = .ok (.getfield 398, 3) := by decide +kernel
theorem dX12_strike_23 : decode cX12_strike 23 = .ok (.if_icmp .lt 7, 3) := by decide +kernel
theorem dX12_strike_26 : decode cX12_strike 26 = .ok (.iconst (-1), 1) := by decide +kernel
theorem dX12_strike_27 : decode cX12_strike 27 = .ok (.goto 11, 3) := by decide +kernel
theorem dX12_strike_30 : decode cX12_strike 30 = .ok (.aload_n 0, 1) := by decide +kernel
theorem dX12_strike_31 : decode cX12_strike 31 = .ok (.iconst (-1), 1) := by decide +kernel
theorem dX12_strike_32 : decode cX12_strike 32 = .ok (.iload_n 1, 1) := by decide +kernel
theorem dX12_strike_33 : decode cX12_strike 33 = .ok (.iconst 0, 1) := by decide +kernel
theorem dX12_strike_34 : decode cX12_strike 34 = .ok (.iconst 0, 1) := by decide +kernel
theorem dX12_strike_35 : decode cX12_strike 35 = .ok (.invokevirtual 553, 3) := by decide +kernel
theorem dX12_strike_38 : decode cX12_strike 38 = .ok (.ireturn, 1) := by decide +kernel
theorem dX12_known_0 : decode cX12_known 0 = .ok (.aload_n 0, 1) := by decide +kernel
theorem dX12_known_1 : decode cX12_known 1 = .ok (.iconst 0, 1) := by decide +kernel
theorem dX12_known_2 : decode cX12_known 2 = .ok (.putfield 175, 3) := by decide +kernel
theorem dX12_known_5 : decode cX12_known 5 = .ok (.iload_n 1, 1) := by decide +kernel
theorem dX12_known_6 : decode cX12_known 6 = .ok (.iconst (-1), 1) := by decide +kernel
theorem dX12_known_7 : decode cX12_known 7 = .ok (.aload_n 0, 1) := by decide +kernel
theorem dX12_known_8 : decode cX12_known 8 = .ok (.getfield 398, 3) := by decide +kernel
theorem dX12_known_11 : decode cX12_known 11 = .ok (.invokestatic 220, 3) := by decide +kernel
theorem dX12_known_14 : decode cX12_known 14 = .ok (.ifCond .ne 5, 3) := by decide +kernel
theorem dX12_known_17 : decode cX12_known 17 = .ok (.iconst 0, 1) := by decide +kernel
theorem dX12_known_18 : decode cX12_known 18 = .ok (.ireturn, 1) := by decide +kernel
theorem dX12_known_19 : decode cX12_known 19 = .ok (.aload_n 0, 1) := by decide +kernel
theorem dX12_known_20 : decode cX12_known 20 = .ok (.iload_n 1, 1) := by decide +kernel
theorem dX12_known_21 : decode cX12_known 21 = .ok (.putfield 145, 3) := by decide +kernel
theorem dX12_known_24 : decode cX12_known 24 = .ok (.iconst 1, 1) := by decide +kernel
theorem dX12_known_25 : decode cX12_known 25 = .ok (.ireturn, 1) := by decide +kernel
theorem dX12_knownBy_0 : decode cX12_knownBy 0 = .ok (.aload_n 0, 1) := by decide +kernel
theorem dX12_knownBy_1 : decode cX12_knownBy 1 = .ok (.getfield 145, 3) := by decide +kernel
theorem dX12_knownBy_4 : decode cX12_knownBy 4 = .ok (.ifCond .ge 10, 3) := by decide +kernel
theorem dX12_knownBy_7 : decode cX12_knownBy 7 = .ok (.aload_n 0, 1) := by decide +kernel
theorem dX12_knownBy_8 : decode cX12_knownBy 8 = .ok (.getfield 398, 3) := by decide +kernel
theorem dX12_knownBy_11 : decode cX12_knownBy 11 = .ok (.goto 7, 3) := by decide +kernel
theorem dX12_knownBy_14 : decode cX12_knownBy 14 = .ok (.aload_n 0, 1) := by decide +kernel
theorem dX12_knownBy_15 : decode cX12_knownBy 15 = .ok (.getfield 145, 3) := by decide +kernel
theorem dX12_knownBy_18 : decode cX12_knownBy 18 = .ok (.ireturn, 1) := by decide +kernel
theorem dX12_isSo_0 : decode cX12_isSo 0 = .ok (.iconst 0, 1) := by decide +kernel
theorem dX12_isSo_1 : decode cX12_isSo 1 = .ok (.istore_n 2, 1) := by decide +kernel
theorem dX12_isSo_2 : decode cX12_isSo 2 = .ok (.iload_n 2, 1) := by decide +kernel
theorem dX12_isSo_3 : decode cX12_isSo 3 = .ok (.aload_n 0, 1) := by decide +kernel
theorem dX12_isSo_4 : decode cX12_isSo 4 = .ok (.invokevirtual 556, 3) := by decide +kernel
theorem dX12_isSo_7 : decode cX12_isSo 7 = .ok (.if_icmp .ge 93, 3) := by decide +kernel
theorem dX12_isSo_10 : decode cX12_isSo 10 = .ok (.aload_n 0, 1) := by decide +kernel
theorem dX12_isSo_11 : decode cX12_isSo 11 = .ok (.getfield 151, 3) := by decide +kernel
theorem dX12_isSo_14 : decode cX12_isSo 14 = .ok (.iload_n 2, 1) := by decide +kernel
theorem dX12_isSo_15 : decode cX12_isSo 15 = .ok (.baload, 1) := by decide +kernel
theorem dX12_isSo_16 : decode cX12_isSo 16 = .ok (.ifCond .eq 78, 3) := by decide +kernel
theorem dX12_isSo_19 : decode cX12_isSo 19 = .ok (.aload_n 0, 1) := by decide +kernel
theorem dX12_isSo_20 : decode cX12_isSo 20 = .ok (.getfield 148, 3) := by decide +kernel
theorem dX12_isSo_23 : decode cX12_isSo 23 = .ok (.iconst 4, 1) := by decide +kernel
theorem dX12_isSo_24 : decode cX12_isSo 24 = .ok (.iload_n 2, 1) := by decide +kernel
theorem dX12_isSo_25 : decode cX12_isSo 25 = .ok (.imul, 1) := by decide +kernel
theorem dX12_isSo_26 : decode cX12_isSo 26 = .ok (.iaload, 1) := by decide +kernel
theorem dX12_isSo_27 : decode cX12_isSo 27 = .ok (.iload_n 1, 1) := by decide +kernel
theorem dX12_isSo_28 : decode cX12_isSo 28 = .ok (.if_icmp .eq 6, 3) := by decide +kernel
theorem dX12_isSo_31 : decode cX12_isSo 31 = .ok (.goto 63, 3) := by decide +kernel
theorem dX12_isSo_34 : decode cX12_isSo 34 = .ok (.aload_n 0, 1) := by decide +kernel
theorem dX12_isSo_35 : decode cX12_isSo 35 = .ok (.getfield 124, 3) := by decide +kernel
theorem dX12_isSo_38 : decode cX12_isSo 38 = .ok (.bipush 8, 2) := by decide +kernel
theorem dX12_isSo_40 : decode cX12_isSo 40 = .ok (.aload_n 0, 1) := by decide +kernel
theorem dX12_isSo_41 : decode cX12_isSo 41 = .ok (.getfield 148, 3) := by decide +kernel
theorem dX12_isSo_44 : decode cX12_isSo 44 = .ok (.iconst 4, 1) := by decide +kernel
theorem dX12_isSo_45 : decode cX12_isSo 45 = .ok (.iload_n 2, 1) := by decide +kernel
theorem dX12_isSo_46 : decode cX12_isSo 46 = .ok (.imul, 1) := by decide +kernel
theorem dX12_isSo_47 : decode cX12_isSo 47 = .ok (.iconst 1, 1) := by decide +kernel
theorem dX12_isSo_48 : decode cX12_isSo 48 = .ok (.iadd, 1) := by decide +kernel
theorem dX12_isSo_49 : decode cX12_isSo 49 = .ok (.iaload, 1) := by decide +kernel
theorem dX12_isSo_50 : decode cX12_isSo 50 = .ok (.iadd, 1) := by decide +kernel
theorem dX12_isSo_51 : decode cX12_isSo 51 = .ok (.iaload, 1) := by decide +kernel
theorem dX12_isSo_52 : decode cX12_isSo 52 = .ok (.aload_n 0, 1) := by decide +kernel
theorem dX12_isSo_53 : decode cX12_isSo 53 = .ok (.getfield 148, 3) := by decide +kernel
theorem dX12_isSo_56 : decode cX12_isSo 56 = .ok (.iconst 4, 1) := by decide +kernel
theorem dX12_isSo_57 : decode cX12_isSo 57 = .ok (.iload_n 2, 1) := by decide +kernel
theorem dX12_isSo_58 : decode cX12_isSo 58 = .ok (.imul, 1) := by decide +kernel
theorem dX12_isSo_59 : decode cX12_isSo 59 = .ok (.iconst 2, 1) := by decide +kernel
theorem dX12_isSo_60 : decode cX12_isSo 60 = .ok (.iadd, 1) := by decide +kernel
theorem dX12_isSo_61 : decode cX12_isSo 61 = .ok (.iaload, 1) := by decide +kernel
theorem dX12_isSo_62 : decode cX12_isSo 62 = .ok (.if_icmp .lt 7, 3) := by decide +kernel
theorem dX12_isSo_65 : decode cX12_isSo 65 = .ok (.iconst 1, 1) := by decide +kernel
theorem dX12_isSo_66 : decode cX12_isSo 66 = .ok (.goto 4, 3) := by decide +kernel
theorem dX12_isSo_69 : decode cX12_isSo 69 = .ok (.iconst 0, 1) := by decide +kernel
theorem dX12_isSo_70 : decode cX12_isSo 70 = .ok (.aload_n 0, 1) := by decide +kernel
theorem dX12_isSo_71 : decode cX12_isSo 71 = .ok (.getfield 148, 3) := by decide +kernel
theorem dX12_isSo_74 : decode cX12_isSo 74 = .ok (.iconst 4, 1) := by decide +kernel
theorem dX12_isSo_75 : decode cX12_isSo 75 = .ok (.iload_n 2, 1) := by decide +kernel
theorem dX12_isSo_76 : decode cX12_isSo 76 = .ok (.imul, 1) := by decide +kernel
theorem dX12_isSo_77 : decode cX12_isSo 77 = .ok (.iconst 3, 1) := by decide +kernel
theorem dX12_isSo_78 : decode cX12_isSo 78 = .ok (.iadd, 1) := by decide +kernel
theorem dX12_isSo_79 : decode cX12_isSo 79 = .ok (.iaload, 1) := by decide +kernel
theorem dX12_isSo_80 : decode cX12_isSo 80 = .ok (.iconst 1, 1) := by decide +kernel
theorem dX12_isSo_81 : decode cX12_isSo 81 = .ok (.if_icmp .ne 7, 3) := by decide +kernel
theorem dX12_isSo_84 : decode cX12_isSo 84 = .ok (.iconst 1, 1) := by decide +kernel
theorem dX12_isSo_85 : decode cX12_isSo 85 = .ok (.goto 4, 3) := by decide +kernel
theorem dX12_isSo_88 : decode cX12_isSo 88 = .ok (.iconst 0, 1) := by decide +kernel
theorem dX12_isSo_89 : decode cX12_isSo 89 = .ok (.if_icmp .eq 5, 3) := by decide +kernel
theorem dX12_isSo_92 : decode cX12_isSo 92 = .ok (.iconst 0, 1) := by decide +kernel
theorem dX12_isSo_93 : decode cX12_isSo 93 = .ok (.ireturn, 1) := by decide +kernel
theorem dX12_isSo_94 : decode cX12_isSo 94 = .ok (.iinc 2 1, 3) := by decide +kernel
theorem dX12_isSo_97 : decode cX12_isSo 97 = .ok (.goto (-95), 3) := by decide +kernel
theorem dX12_isSo_100 : decode cX12_isSo 100 = .ok (.iconst 1, 1) := by decide +kernel
theorem dX12_isSo_101 : decode cX12_isSo 101 = .ok (.ireturn, 1) := by decide +kernel
theorem dX12_layBump_0 : decode cX12_layBump 0 = .ok (.aload_n 0, 1) := by decide +kernel
theorem dX12_layBump_1 : decode cX12_layBump 1 = .ok (.iconst 1, 1) := by decide +kernel
theorem dX12_layBump_2 : decode cX12_layBump 2 = .ok (.invokevirtual 388, 3) := by decide +kernel
theorem dX12_layBump_5 : decode cX12_layBump 5 = .ok (.aload_n 0, 1) := by decide +kernel
theorem dX12_layBump_6 : decode cX12_layBump 6 = .ok (.invokevirtual 395, 3) := by decide +kernel
theorem dX12_layBump_9 : decode cX12_layBump 9 = .ok (.aload_n 0, 1) := by decide +kernel
theorem dX12_layBump_10 : decode cX12_layBump 10 = .ok (.getfield 121, 3) := by decide +kernel
theorem dX12_layBump_13 : decode cX12_layBump 13 = .ok (.bipush 8, 2) := by decide +kernel
theorem dX12_layBump_15 : decode cX12_layBump 15 = .ok (.iload_n 1, 1) := by decide +kernel
theorem dX12_layBump_16 : decode cX12_layBump 16 = .ok (.iadd, 1) := by decide +kernel
theorem dX12_layBump_17 : decode cX12_layBump 17 = .ok (.iload_n 2, 1) := by decide +kernel
theorem dX12_layBump_18 : decode cX12_layBump 18 = .ok (.iastore, 1) := by decide +kernel
theorem dX12_layBump_19 : decode cX12_layBump 19 = .ok (.return_, 1) := by decide +kernel
theorem dX12_fits_0 : decode cX12_fits 0 = .ok (.aload_n 0, 1) := by decide +kernel
theorem dX12_fits_1 : decode cX12_fits 1 = .ok (.iload_n 1, 1) := by decide +kernel
theorem dX12_fits_2 : decode cX12_fits 2 = .ok (.iload_n 2, 1) := by decide +kernel
theorem dX12_fits_3 : decode cX12_fits 3 = .ok (.invokevirtual 559, 3) := by decide +kernel
theorem dX12_fits_6 : decode cX12_fits 6 = .ok (.iconst 1, 1) := by decide +kernel
theorem dX12_fits_7 : decode cX12_fits 7 = .ok (.istore_n 3, 1) := by decide +kernel
theorem dX12_fits_8 : decode cX12_fits 8 = .ok (.iload_n 3, 1) := by decide +kernel
theorem dX12_fits_9 : decode cX12_fits 9 = .ok (.bipush 60, 2) := by decide +kernel
theorem dX12_fits_11 : decode cX12_fits 11 = .ok (.if_icmp .gt 24, 3) := by decide +kernel
theorem dX12_fits_14 : decode cX12_fits 14 = .ok (.aload_n 0, 1) := by decide +kernel
theorem dX12_fits_15 : decode cX12_fits 15 = .ok (.iconst 1, 1) := by decide +kernel
theorem dX12_fits_16 : decode cX12_fits 16 = .ok (.invokevirtual 489, 3) := by decide +kernel
theorem dX12_fits_19 : decode cX12_fits 19 = .ok (.aload_n 0, 1) := by decide +kernel
theorem dX12_fits_20 : decode cX12_fits 20 = .ok (.iload_n 3, 1) := by decide +kernel
theorem dX12_fits_21 : decode cX12_fits 21 = .ok (.invokevirtual 562, 3) := by decide +kernel
theorem dX12_fits_24 : decode cX12_fits 24 = .ok (.ifCond .ne 5, 3) := by decide +kernel
theorem dX12_fits_27 : decode cX12_fits 27 = .ok (.iconst 0, 1) := by decide +kernel
theorem dX12_fits_28 : decode cX12_fits 28 = .ok (.ireturn, 1) := by decide +kernel
theorem dX12_fits_29 : decode cX12_fits 29 = .ok (.iinc 3 1, 3) := by decide +kernel
theorem dX12_fits_32 : decode cX12_fits 32 = .ok (.goto (-24), 3) := by decide +kernel
theorem dX12_fits_35 : decode cX12_fits 35 = .ok (.iconst 1, 1) := by decide +kernel
theorem dX12_fits_36 : decode cX12_fits 36 = .ok (.ireturn, 1) := by decide +kernel
theorem dX12_bumpBits_0 : decode cX12_bumpBits 0 = .ok (.iconst 0, 1) := by decide +kernel
theorem dX12_bumpBits_1 : decode cX12_bumpBits 1 = .ok (.istore_n 2, 1) := by decide +kernel
theorem dX12_bumpBits_2 : decode cX12_bumpBits 2 = .ok (.iload_n 2, 1) := by decide +kernel
theorem dX12_bumpBits_3 : decode cX12_bumpBits 3 = .ok (.aload_n 0, 1) := by decide +kernel
theorem dX12_bumpBits_4 : decode cX12_bumpBits 4 = .ok (.invokevirtual 556, 3) := by decide +kernel
theorem dX12_bumpBits_7 : decode cX12_bumpBits 7 = .ok (.if_icmp .ge 16, 3) := by decide +kernel
theorem dX12_bumpBits_10 : decode cX12_bumpBits 10 = .ok (.aload_n 0, 1) := by decide +kernel
theorem dX12_bumpBits_11 : decode cX12_bumpBits 11 = .ok (.getfield 151, 3) := by decide +kernel
theorem dX12_bumpBits_14 : decode cX12_bumpBits 14 = .ok (.iload_n 2, 1) := by decide +kernel
theorem dX12_bumpBits_15 : decode cX12_bumpBits 15 = .ok (.iconst 1, 1) := by decide +kernel
theorem dX12_bumpBits_16 : decode cX12_bumpBits 16 = .ok (.bastore, 1) := by decide +kernel
theorem dX12_bumpBits_17 : decode cX12_bumpBits 17 = .ok (.iinc 2 1, 3) := by decide +kernel
theorem dX12_bumpBits_20 : decode cX12_bumpBits 20 = .ok (.goto (-18), 3) := by decide +kernel
theorem dX12_bumpBits_23 : decode cX12_bumpBits 23 = .ok (.aload_n 0, 1) := by decide +kernel
theorem dX12_bumpBits_24 : decode cX12_bumpBits 24 = .ok (.invokevirtual 556, 3) := by decide +kernel
theorem dX12_bumpBits_27 : decode cX12_bumpBits 27 = .ok (.iconst 1, 1) := by decide +kernel
theorem dX12_bumpBits_28 : decode cX12_bumpBits 28 = .ok (.isub, 1) := by decide +kernel
theorem dX12_bumpBits_29 : decode cX12_bumpBits 29 = .ok (.istore_n 2, 1) := by decide +kernel
theorem dX12_bumpBits_30 : decode cX12_bumpBits 30 = .ok (.iload_n 2, 1) := by decide +kernel
theorem dX12_bumpBits_31 : decode cX12_bumpBits 31 = .ok (.ifCond .lt 45, 3) := by decide +kernel
theorem dX12_bumpBits_34 : decode cX12_bumpBits 34 = .ok (.aload_n 0, 1) := by decide +kernel
theorem dX12_bumpBits_35 : decode cX12_bumpBits 35 = .ok (.getfield 151, 3) := by decide +kernel
theorem dX12_bumpBits_38 : decode cX12_bumpBits 38 = .ok (.iload_n 2, 1) := by decide +kernel
theorem dX12_bumpBits_39 : decode cX12_bumpBits 39 = .ok (.baload, 1) := by decide +kernel
theorem dX12_bumpBits_40 : decode cX12_bumpBits 40 = .ok (.ifCond .eq 30, 3) := by decide +kernel
theorem dX12_bumpBits_43 : decode cX12_bumpBits 43 = .ok (.aload_n 0, 1) := by decide +kernel
theorem dX12_bumpBits_44 : decode cX12_bumpBits 44 = .ok (.getfield 148, 3) := by decide +kernel
theorem dX12_bumpBits_47 : decode cX12_bumpBits 47 = .ok (.iconst 4, 1) := by decide +kernel
theorem dX12_bumpBits_48 : decode cX12_bumpBits 48 = .ok (.iload_n 2, 1) := by decide +kernel
theorem dX12_bumpBits_49 : decode cX12_bumpBits 49 = .ok (.imul, 1) := by decide +kernel
theorem dX12_bumpBits_50 : decode cX12_bumpBits 50 = .ok (.iaload, 1) := by decide +kernel
theorem dX12_bumpBits_51 : decode cX12_bumpBits 51 = .ok (.ifCond .ge 19, 3) := by decide +kernel
theorem dX12_bumpBits_54 : decode cX12_bumpBits 54 = .ok (.aload_n 0, 1) := by decide +kernel
theorem dX12_bumpBits_55 : decode cX12_bumpBits 55 = .ok (.getfield 151, 3) := by decide +kernel
theorem dX12_bumpBits_58 : decode cX12_bumpBits 58 = .ok (.aload_n 0, 1) := by decide +kernel
theorem dX12_bumpBits_59 : decode cX12_bumpBits 59 = .ok (.getfield 148, 3) := by decide +kernel
theorem dX12_bumpBits_62 : decode cX12_bumpBits 62 = .ok (.iconst 4, 1) := by decide +kernel
theorem dX12_bumpBits_63 : decode cX12_bumpBits 63 = .ok (.iload_n 2, 1) := by decide +kernel
theorem dX12_bumpBits_64 : decode cX12_bumpBits 64 = .ok (.imul, 1) := by decide +kernel
theorem dX12_bumpBits_65 : decode cX12_bumpBits 65 = .ok (.iconst 1, 1) := by decide +kernel
theorem dX12_bumpBits_66 : decode cX12_bumpBits 66 = .ok (.iadd, 1) := by decide +kernel
theorem dX12_bumpBits_67 : decode cX12_bumpBits 67 = .ok (.iaload, 1) := by decide +kernel
theorem dX12_bumpBits_68 : decode cX12_bumpBits 68 = .ok (.iconst 0, 1) := by decide +kernel
theorem dX12_bumpBits_69 : decode cX12_bumpBits 69 = .ok (.bastore, 1) := by decide +kernel
theorem dX12_bumpBits_70 : decode cX12_bumpBits 70 = .ok (.iinc 2 (-1), 3) := by decide +kernel
theorem dX12_bumpBits_73 : decode cX12_bumpBits 73 = .ok (.goto (-43), 3) := by decide +kernel
theorem dX12_bumpBits_76 : decode cX12_bumpBits 76 = .ok (.iconst 0, 1) := by decide +kernel
theorem dX12_bumpBits_77 : decode cX12_bumpBits 77 = .ok (.istore_n 2, 1) := by decide +kernel
theorem dX12_bumpBits_78 : decode cX12_bumpBits 78 = .ok (.iconst 0, 1) := by decide +kernel
theorem dX12_bumpBits_79 : decode cX12_bumpBits 79 = .ok (.istore_n 3, 1) := by decide +kernel
theorem dX12_bumpBits_80 : decode cX12_bumpBits 80 = .ok (.iload_n 3, 1) := by decide +kernel
theorem dX12_bumpBits_81 : decode cX12_bumpBits 81 = .ok (.bipush 21, 2) := by decide +kernel
theorem dX12_bumpBits_83 : decode cX12_bumpBits 83 = .ok (.if_icmp .ge 28, 3) := by decide +kernel
theorem dX12_bumpBits_86 : decode cX12_bumpBits 86 = .ok (.iload_n 2, 1) := by decide +kernel
theorem dX12_bumpBits_87 : decode cX12_bumpBits 87 = .ok (.aload_n 0, 1) := by decide +kernel
theorem dX12_bumpBits_88 : decode cX12_bumpBits 88 = .ok (.iload_n 1, 1) := by decide +kernel
theorem dX12_bumpBits_89 : decode cX12_bumpBits 89 = .ok (.iload_n 3, 1) := by decide +kernel
theorem dX12_bumpBits_90 : decode cX12_bumpBits 90 = .ok (.invokevirtual 565, 3) := by decide +kernel
theorem dX12_bumpBits_93 : decode cX12_bumpBits 93 = .ok (.ifCond .eq 9, 3) := by decide +kernel
theorem dX12_bumpBits_96 : decode cX12_bumpBits 96 = .ok (.iconst 1, 1) := by decide +kernel
theorem dX12_bumpBits_97 : decode cX12_bumpBits 97 = .ok (.iload_n 3, 1) := by decide +kernel
theorem dX12_bumpBits_98 : decode cX12_bumpBits 98 = .ok (.ishl, 1) := by decide +kernel
theorem dX12_bumpBits_99 : decode cX12_bumpBits 99 = .ok (.goto 4, 3) := by decide +kernel
theorem dX12_bumpBits_102 : decode cX12_bumpBits 102 = .ok (.iconst 0, 1) := by decide +kernel
theorem dX12_bumpBits_103 : decode cX12_bumpBits 103 = .ok (.ior, 1) := by decide +kernel
theorem dX12_bumpBits_104 : decode cX12_bumpBits 104 = .ok (.istore_n 2, 1) := by decide +kernel
theorem dX12_bumpBits_105 : decode cX12_bumpBits 105 = .ok (.iinc 3 1, 3) := by decide +kernel
theorem dX12_bumpBits_108 : decode cX12_bumpBits 108 = .ok (.goto (-28), 3) := by decide +kernel
theorem dX12_bumpBits_111 : decode cX12_bumpBits 111 = .ok (.iload_n 2, 1) := by decide +kernel
theorem dX12_bumpBits_112 : decode cX12_bumpBits 112 = .ok (.ireturn, 1) := by decide +kernel
theorem dX12_bumps_0 : decode cX12_bumps 0 = .ok (.aload_n 0, 1) := by decide +kernel
theorem dX12_bumps_1 : decode cX12_bumps 1 = .ok (.iconst 0, 1) := by decide +kernel
theorem dX12_bumps_2 : decode cX12_bumps 2 = .ok (.putfield 175, 3) := by decide +kernel
theorem dX12_bumps_5 : decode cX12_bumps 5 = .ok (.aload_n 0, 1) := by decide +kernel
theorem dX12_bumps_6 : decode cX12_bumps 6 = .ok (.iload_n 1, 1) := by decide +kernel
theorem dX12_bumps_7 : decode cX12_bumps 7 = .ok (.invokevirtual 492, 3) := by decide +kernel
theorem dX12_bumps_10 : decode cX12_bumps 10 = .ok (.ifCond .eq 11, 3) := by decide +kernel
theorem dX12_bumps_13 : decode cX12_bumps 13 = .ok (.aload_n 0, 1) := by decide +kernel
theorem dX12_bumps_14 : decode cX12_bumps 14 = .ok (.iload_n 1, 1) := by decide +kernel
theorem dX12_bumps_15 : decode cX12_bumps 15 = .ok (.invokevirtual 568, 3) := by decide +kernel
theorem dX12_bumps_18 : decode cX12_bumps 18 = .ok (.goto 4, 3) := by decide +kernel
theorem dX12_bumps_21 : decode cX12_bumps 21 = .ok (.iconst (-1), 1) := by decide +kernel
theorem dX12_bumps_22 : decode cX12_bumps 22 = .ok (.ireturn, 1) := by decide +kernel
theorem dX12_ask_0 : decode cX12_ask 0 = .ok (.aload_n 0, 1) := by decide +kernel
theorem dX12_ask_1 : decode cX12_ask 1 = .ok (.iconst 0, 1) := by decide +kernel
theorem dX12_ask_2 : decode cX12_ask 2 = .ok (.putfield 175, 3) := by decide +kernel
theorem dX12_ask_5 : decode cX12_ask 5 = .ok (.aload_n 0, 1) := by decide +kernel
theorem dX12_ask_6 : decode cX12_ask 6 = .ok (.iload_n 1, 1) := by decide +kernel
theorem dX12_ask_7 : decode cX12_ask 7 = .ok (.invokevirtual 492, 3) := by decide +kernel
theorem dX12_ask_10 : decode cX12_ask 10 = .ok (.ifCond .eq 22, 3) := by decide +kernel
theorem dX12_ask_13 : decode cX12_ask 13 = .ok (.iload_n 2, 1) := by decide +kernel
theorem dX12_ask_14 : decode cX12_ask 14 = .ok (.iconst 1, 1) := by decide +kernel
theorem dX12_ask_15 : decode cX12_ask 15 = .ok (.bipush 60, 2) := by decide +kernel
theorem dX12_ask_17 : decode cX12_ask 17 = .ok (.invokestatic 220, 3) := by decide +kernel
theorem dX12_ask_20 : decode cX12_ask 20 = .ok (.ifCond .eq 12, 3) := by decide +kernel
theorem dX12_ask_23 : decode cX12_ask 23 = .ok (.iload_n 3, 1) := by decide +kernel
theorem dX12_ask_24 : decode cX12_ask 24 = .ok (.iconst 0, 1) := by decide +kernel
theorem dX12_ask_25 : decode cX12_ask 25 = .ok (.iconst 1, 1) := by decide +kernel
theorem dX12_ask_26 : decode cX12_ask 26 = .ok (.invokestatic 220, 3) := by decide +kernel
theorem dX12_ask_29 : decode cX12_ask 29 = .ok (.ifCond .ne 5, 3) := by decide +kernel
theorem dX12_ask_32 : decode cX12_ask 32 = .ok (.iconst (-1), 1) := by decide +kernel
theorem dX12_ask_33 : decode cX12_ask 33 = .ok (.ireturn, 1) := by decide +kernel
theorem dX12_ask_34 : decode cX12_ask 34 = .ok (.aload_n 0, 1) := by decide +kernel
theorem dX12_ask_35 : decode cX12_ask 35 = .ok (.iload_n 1, 1) := by decide +kernel
theorem dX12_ask_36 : decode cX12_ask 36 = .ok (.invokevirtual 568, 3) := by decide +kernel
theorem dX12_ask_39 : decode cX12_ask 39 = .ok (.istore 4, 2) := by decide +kernel
theorem dX12_ask_41 : decode cX12_ask 41 = .ok (.iconst 0, 1) := by decide +kernel
theorem dX12_ask_42 : decode cX12_ask 42 = .ok (.istore 5, 2) := by decide +kernel
theorem dX12_ask_44 : decode cX12_ask 44 = .ok (.iload 5, 2) := by decide +kernel
theorem dX12_ask_46 : decode cX12_ask 46 = .ok (.bipush 21, 2) := by decide +kernel
theorem dX12_ask_48 : decode cX12_ask 48 = .ok (.if_icmp .ge 37, 3) := by decide +kernel
theorem dX12_ask_51 : decode cX12_ask 51 = .ok (.aload_n 0, 1) := by decide +kernel
theorem dX12_ask_52 : decode cX12_ask 52 = .ok (.iload_n 1, 1) := by decide +kernel
theorem dX12_ask_53 : decode cX12_ask 53 = .ok (.iload 5, 2) := by decide +kernel
theorem dX12_ask_55 : decode cX12_ask 55 = .ok (.invokevirtual 559, 3) := by decide +kernel
theorem dX12_ask_58 : decode cX12_ask 58 = .ok (.aload_n 0, 1) := by decide +kernel
theorem dX12_ask_59 : decode cX12_ask 59 = .ok (.iload_n 2, 1) := by decide +kernel
theorem dX12_ask_60 : decode cX12_ask 60 = .ok (.invokevirtual 513, 3) := by decide +kernel
theorem dX12_ask_63 : decode cX12_ask 63 = .ok (.aload_n 0, 1) := by decide +kernel
theorem dX12_ask_64 : decode cX12_ask 64 = .ok (.getfield 154, 3) := by decide +kernel
theorem dX12_ask_67 : decode cX12_ask 67 = .ok (.iload 5, 2) := by decide +kernel
theorem dX12_ask_69 : decode cX12_ask 69 = .ok (.aload_n 0, 1) := by decide +kernel
theorem dX12_ask_70 : decode cX12_ask 70 = .ok (.getfield 124, 3) := by decide +kernel
theorem dX12_ask_73 : decode cX12_ask 73 = .ok (.bipush 8, 2) := by decide +kernel
theorem dX12_ask_75 : decode cX12_ask 75 = .ok (.iload_n 1, 1) := by decide +kernel
theorem dX12_ask_76 : decode cX12_ask 76 = .ok (.iadd, 1) := by decide +kernel
theorem dX12_ask_77 : decode cX12_ask 77 = .ok (.iaload, 1) := by decide +kernel
theorem dX12_ask_78 : decode cX12_ask 78 = .ok (.iastore, 1) := by decide +kernel
theorem dX12_ask_79 : decode cX12_ask 79 = .ok (.iinc 5 1, 3) := by decide +kernel
theorem dX12_ask_82 : decode cX12_ask 82 = .ok (.goto (-38), 3) := by decide +kernel
theorem dX12_ask_85 : decode cX12_ask 85 = .ok (.iconst 1, 1) := by decide +kernel
theorem dX12_ask_86 : decode cX12_ask 86 = .ok (.istore 5, 2) := by decide +kernel
theorem dX12_ask_88 : decode cX12_ask 88 = .ok (.iconst (-1), 1) := by decide +kernel
theorem dX12_ask_89 : decode cX12_ask 89 = .ok (.istore 6, 2) := by decide +kernel
theorem dX12_ask_91 : decode cX12_ask 91 = .ok (.iconst 1, 1) := by decide +kernel
theorem dX12_ask_92 : decode cX12_ask 92 = .ok (.istore 7, 2) := by decide +kernel
theorem dX12_ask_94 : decode cX12_ask 94 = .ok (.iload 7, 2) := by decide +kernel
theorem dX12_ask_96 : decode cX12_ask 96 = .ok (.bipush 60, 2) := by decide +kernel
theorem dX12_ask_98 : decode cX12_ask 98 = .ok (.if_icmp .gt 109, 3) := by decide +kernel
theorem dX12_ask_101 : decode cX12_ask 101 = .ok (.iconst 0, 1) := by decide +kernel
theorem dX12_ask_102 : decode cX12_ask 102 = .ok (.istore 8, 2) := by decide +kernel
theorem dX12_ask_104 : decode cX12_ask 104 = .ok (.iconst 0, 1) := by decide +kernel
theorem dX12_ask_105 : decode cX12_ask 105 = .ok (.istore 9, 2) := by decide +kernel
theorem dX12_ask_107 : decode cX12_ask 107 = .ok (.iload 9, 2) := by decide +kernel
theorem dX12_ask_109 : decode cX12_ask 109 = .ok (.bipush 21, 2) := by decide +kernel
theorem dX12_ask_111 : decode cX12_ask 111 = .ok (.if_icmp .ge 41, 3) := by decide +kernel
theorem dX12_ask_114 : decode cX12_ask 114 = .ok (.iload 8, 2) := by decide +kernel
theorem dX12_ask_116 : decode cX12_ask 116 = .ok (.iload 4, 2) := by decide +kernel
theorem dX12_ask_118 : decode cX12_ask 118 = .ok (.iload 9, 2) := by decide +kernel
theorem dX12_ask_120 : decode cX12_ask 120 = .ok (.invokestatic 426, 3) := by decide +kernel
theorem dX12_ask_123 : decode cX12_ask 123 = .ok (.ifCond .eq 19, 3) := by decide +kernel
theorem dX12_ask_126 : decode cX12_ask 126 = .ok (.aload_n 0, 1) := by decide +kernel
theorem dX12_ask_127 : decode cX12_ask 127 = .ok (.getfield 154, 3) := by decide +kernel
theorem dX12_ask_130 : decode cX12_ask 130 = .ok (.iload 9, 2) := by decide +kernel
theorem dX12_ask_132 : decode cX12_ask 132 = .ok (.iaload, 1) := by decide +kernel
theorem dX12_ask_133 : decode cX12_ask 133 = .ok (.iload 7, 2) := by decide +kernel
theorem dX12_ask_135 : decode cX12_ask 135 = .ok (.if_icmp .lt 7, 3) := by decide +kernel
theorem dX12_ask_138 : decode cX12_ask 138 = .ok (.iconst 1, 1) := by decide +kernel
theorem dX12_ask_139 : decode cX12_ask 139 = .ok (.goto 4, 3) := by decide +kernel
theorem dX12_ask_142 : decode cX12_ask 142 = .ok (.iconst 0, 1) := by decide +kernel
theorem dX12_ask_143 : decode cX12_ask 143 = .ok (.iadd, 1) := by decide +kernel
theorem dX12_ask_144 : decode cX12_ask 144 = .ok (.istore 8, 2) := by decide +kernel
theorem dX12_ask_146 : decode cX12_ask 146 = .ok (.iinc 9 1, 3) := by decide +kernel
theorem dX12_ask_149 : decode cX12_ask 149 = .ok (.goto (-42), 3) := by decide +kernel
theorem dX12_ask_152 : decode cX12_ask 152 = .ok (.iload 4, 2) := by decide +kernel
theorem dX12_ask_154 : decode cX12_ask 154 = .ok (.invokestatic 531, 3) := by decide +kernel
theorem dX12_ask_157 : decode cX12_ask 157 = .ok (.iload 8, 2) := by decide +kernel
theorem dX12_ask_159 : decode cX12_ask 159 = .ok (.isub, 1) := by decide +kernel
theorem dX12_ask_160 : decode cX12_ask 160 = .ok (.istore 9, 2) := by decide +kernel
theorem dX12_ask_162 : decode cX12_ask 162 = .ok (.iload 8, 2) := by decide +kernel
theorem dX12_ask_164 : decode cX12_ask 164 = .ok (.iload 9, 2) := by decide +kernel
theorem dX12_ask_166 : decode cX12_ask 166 = .ok (.if_icmp .le 8, 3) := by decide +kernel
theorem dX12_ask_169 : decode cX12_ask 169 = .ok (.iload 8, 2) := by decide +kernel
theorem dX12_ask_171 : decode cX12_ask 171 = .ok (.goto 5, 3) := by decide +kernel
theorem dX12_ask_174 : decode cX12_ask 174 = .ok (.iload 9, 2) := by decide +kernel
theorem dX12_ask_176 : decode cX12_ask 176 = .ok (.istore 10, 2) := by decide +kernel
theorem dX12_ask_178 : decode cX12_ask 178 = .ok (.iload 6, 2) := by decide +kernel
theorem dX12_ask_180 : decode cX12_ask 180 = .ok (.ifCond .lt 13, 3) := by decide +kernel
theorem dX12_ask_183 : decode cX12_ask 183 = .ok (.iload 10, 2) := by decide +kernel
theorem dX12_ask_185 : decode cX12_ask 185 = .ok (.iload 6, 2) := by decide +kernel
theorem dX12_ask_187 : decode cX12_ask 187 = .ok (.if_icmp .lt 6, 3) := by decide +kernel
theorem dX12_ask_190 : decode cX12_ask 190 = .ok (.goto 11, 3) := by decide +kernel
theorem dX12_ask_193 : decode cX12_ask 193 = .ok (.iload 7, 2) := by decide +kernel
theorem dX12_ask_195 : decode cX12_ask 195 = .ok (.istore 5, 2) := by decide +kernel
theorem dX12_ask_197 : decode cX12_ask 197 = .ok (.iload 10, 2) := by decide +kernel
theorem dX12_ask_199 : decode cX12_ask 199 = .ok (.istore 6, 2) := by decide +kernel
theorem dX12_ask_201 : decode cX12_ask 201 = .ok (.iinc 7 1, 3) := by decide +kernel
theorem dX12_ask_204 : decode cX12_ask 204 = .ok (.goto (-110), 3) := by decide +kernel
theorem dX12_ask_207 : decode cX12_ask 207 = .ok (.iload_n 3, 1) := by decide +kernel
theorem dX12_ask_208 : decode cX12_ask 208 = .ok (.ifCond .ne 8, 3) := by decide +kernel
theorem dX12_ask_211 : decode cX12_ask 211 = .ok (.iload 5, 2) := by decide +kernel
theorem dX12_ask_213 : decode cX12_ask 213 = .ok (.goto 5, 3) := by decide +kernel
theorem dX12_ask_216 : decode cX12_ask 216 = .ok (.iload 6, 2) := by decide +kernel
theorem dX12_ask_218 : decode cX12_ask 218 = .ok (.ireturn, 1) := by decide +kernel
theorem dX12_chance_0 : decode cX12_chance 0 = .ok (.aload_n 0, 1) := by decide +kernel
theorem dX12_chance_1 : decode cX12_chance 1 = .ok (.iconst 0, 1) := by decide +kernel
theorem dX12_chance_2 : decode cX12_chance 2 = .ok (.putfield 175, 3) := by decide +kernel
theorem dX12_chance_5 : decode cX12_chance 5 = .ok (.iload_n 1, 1) := by decide +kernel
theorem dX12_chance_6 : decode cX12_chance 6 = .ok (.ifCond .lt 32, 3) := by decide +kernel
theorem dX12_chance_9 : decode cX12_chance 9 = .ok (.iload_n 2, 1) := by decide +kernel
theorem dX12_chance_10 : decode cX12_chance 10 = .ok (.iconst 1, 1) := by decide +kernel
theorem dX12_chance_11 : decode cX12_chance 11 = .ok (.bipush 99, 2) := by decide +kernel
theorem dX12_chance_13 : decode cX12_chance 13 = .ok (.invokestatic 220, 3) := by decide +kernel
theorem dX12_chance_16 : decode cX12_chance 16 = .ok (.ifCond .eq 22, 3) := by decide +kernel
theorem dX12_chance_19 : decode cX12_chance 19 = .ok (.aload_n 0, 1) := by decide +kernel
theorem dX12_chance_20 : decode cX12_chance 20 = .ok (.iload_n 3, 1) := by decide +kernel
theorem dX12_chance_21 : decode cX12_chance 21 = .ok (.invokevirtual 492, 3) := by decide +kernel
theorem dX12_chance_24 : decode cX12_chance 24 = .ok (.ifCond .eq 14, 3) := by decide +kernel
theorem dX12_chance_27 : decode cX12_chance 27 = .ok (.iload 4, 2) := by decide +kernel
theorem dX12_chance_29 : decode cX12_chance 29 = .ok (.iconst 0, 1) := by decide +kernel
theorem dX12_chance_30 : decode cX12_chance 30 = .ok (.bipush 99, 2) := by decide +kernel
theorem dX12_chance_32 : decode cX12_chance 32 = .ok (.invokestatic 220, 3) := by decide +kernel
theorem dX12_chance_35 : decode cX12_chance 35 = .ok (.ifCond .ne 5, 3) := by decide +kernel
theorem dX12_chance_38 : decode cX12_chance 38 = .ok (.iconst (-1), 1) := by decide +kernel
theorem dX12_chance_39 : decode cX12_chance 39 = .ok (.ireturn, 1) := by decide +kernel
theorem dX12_chance_40 : decode cX12_chance 40 = .ok (.aload_n 0, 1) := by decide +kernel
theorem dX12_chance_41 : decode cX12_chance 41 = .ok (.getfield 391, 3) := by decide +kernel
theorem dX12_chance_44 : decode cX12_chance 44 = .ok (.lstore 5, 2) := by decide +kernel
theorem dX12_chance_46 : decode cX12_chance 46 = .ok (.aload_n 0, 1) := by decide +kernel
theorem dX12_chance_47 : decode cX12_chance 47 = .ok (.iload_n 1, 1) := by decide +kernel
theorem dX12_chance_48 : decode cX12_chance 48 = .ok (.i2l, 1) := by decide +kernel
theorem dX12_chance_49 : decode cX12_chance 49 = .ok (.putfield 391, 3) := by decide +kernel
theorem dX12_chance_52 : decode cX12_chance 52 = .ok (.iconst 0, 1) := by decide +kernel
theorem dX12_chance_53 : decode cX12_chance 53 = .ok (.istore 7, 2) := by decide +kernel
theorem dX12_chance_55 : decode cX12_chance 55 = .ok (.iconst 0, 1) := by decide +kernel
theorem dX12_chance_56 : decode cX12_chance 56 = .ok (.istore 8, 2) := by decide +kernel
theorem dX12_chance_58 : decode cX12_chance 58 = .ok (.iload 8, 2) := by decide +kernel
theorem dX12_chance_60 : decode cX12_chance 60 = .ok (.bipush 10, 2) := by decide +kernel
theorem dX12_chance_62 : decode cX12_chance 62 = .ok (.if_icmp .ge 47, 3) := by decide +kernel
theorem dX12_chance_65 : decode cX12_chance 65 = .ok (.aload_n 0, 1) := by decide +kernel
theorem dX12_chance_66 : decode cX12_chance 66 = .ok (.invokevirtual 510, 3) := by decide +kernel
theorem dX12_chance_69 : decode cX12_chance 69 = .ok (.aload_n 0, 1) := by decide +kernel
theorem dX12_chance_70 : decode cX12_chance 70 = .ok (.iconst 1, 1) := by decide +kernel
theorem dX12_chance_71 : decode cX12_chance 71 = .ok (.putfield 411, 3) := by decide +kernel
theorem dX12_chance_74 : decode cX12_chance 74 = .ok (.aload_n 0, 1) := by decide +kernel
theorem dX12_chance_75 : decode cX12_chance 75 = .ok (.iload_n 2, 1) := by decide +kernel
theorem dX12_chance_76 : decode cX12_chance 76 = .ok (.invokevirtual 513, 3) := by decide +kernel
theorem dX12_chance_79 : decode cX12_chance 79 = .ok (.iload 7, 2) := by decide +kernel
theorem dX12_chance_81 : decode cX12_chance 81 = .ok (.aload_n 0, 1) := by decide +kernel
theorem dX12_chance_82 : decode cX12_chance 82 = .ok (.getfield 124, 3) := by decide +kernel
theorem dX12_chance_85 : decode cX12_chance 85 = .ok (.bipush 8, 2) := by decide +kernel
theorem dX12_chance_87 : decode cX12_chance 87 = .ok (.iload_n 3, 1) := by decide +kernel
theorem dX12_chance_88 : decode cX12_chance 88 = .ok (.iadd, 1) := by decide +kernel
theorem dX12_chance_89 : decode cX12_chance 89 = .ok (.iaload, 1) := by decide +kernel
theorem dX12_chance_90 : decode cX12_chance 90 = .ok (.iload 4, 2) := by decide +kernel
theorem dX12_chance_92 : decode cX12_chance 92 = .ok (.if_icmp .lt 7, 3) := by decide +kernel
theorem dX12_chance_95 : decode cX12_chance 95 = .ok (.iconst 1, 1) := by decide +kernel
theorem dX12_chance_96 : decode cX12_chance 96 = .ok (.goto 4, 3) := by decide +kernel
theorem dX12_chance_99 : decode cX12_chance 99 = .ok (.iconst 0, 1) := by decide +kernel
theorem dX12_chance_100 : decode cX12_chance 100 = .ok (.iadd, 1) := by decide +kernel
theorem dX12_chance_101 : decode cX12_chance 101 = .ok (.istore 7, 2) := by decide +kernel
theorem dX12_chance_103 : decode cX12_chance 103 = .ok (.iinc 8 1, 3) := by decide +kernel
theorem dX12_chance_106 : decode cX12_chance 106 = .ok (.goto (-48), 3) := by decide +kernel
theorem dX12_chance_109 : decode cX12_chance 109 = .ok (.aload_n 0, 1) := by decide +kernel
theorem dX12_chance_110 : decode cX12_chance 110 = .ok (.iconst 0, 1) := by decide +kernel
theorem dX12_chance_111 : decode cX12_chance 111 = .ok (.putfield 411, 3) := by decide +kernel
theorem dX12_chance_114 : decode cX12_chance 114 = .ok (.aload_n 0, 1) := by decide +kernel
theorem dX12_chance_115 : decode cX12_chance 115 = .ok (.lload 5, 2) := by decide +kernel
theorem dX12_chance_117 : decode cX12_chance 117 = .ok (.putfield 391, 3) := by decide +kernel
theorem dX12_chance_120 : decode cX12_chance 120 = .ok (.iload 7, 2) := by decide +kernel
theorem dX12_chance_122 : decode cX12_chance 122 = .ok (.ireturn, 1) := by decide +kernel
theorem dX12_tried_0 : decode cX12_tried 0 = .ok (.aload_n 0, 1) := by decide +kernel
theorem dX12_tried_1 : decode cX12_tried 1 = .ok (.iconst 0, 1) := by decide +kernel
theorem dX12_tried_2 : decode cX12_tried 2 = .ok (.putfield 175, 3) := by decide +kernel
theorem dX12_tried_5 : decode cX12_tried 5 = .ok (.iload_n 1, 1) := by decide +kernel
theorem dX12_tried_6 : decode cX12_tried 6 = .ok (.iconst 0, 1) := by decide +kernel
theorem dX12_tried_7 : decode cX12_tried 7 = .ok (.iconst 4, 1) := by decide +kernel
theorem dX12_tried_8 : decode cX12_tried 8 = .ok (.invokestatic 220, 3) := by decide +kernel
theorem dX12_tried_11 : decode cX12_tried 11 = .ok (.ifCond .eq 34, 3) := by decide +kernel
theorem dX12_tried_14 : decode cX12_tried 14 = .ok (.iload_n 3, 1) := by decide +kernel
theorem dX12_tried_15 : decode cX12_tried 15 = .ok (.iconst 0, 1) := by decide +kernel
theorem dX12_tried_16 : decode cX12_tried 16 = .ok (.sipush 200, 3) := by decide +kernel
theorem dX12_tried_19 : decode cX12_tried 19 = .ok (.invokestatic 220, 3) := by decide +kernel
theorem dX12_tried_22 : decode cX12_tried 22 = .ok (.ifCond .eq 23, 3) := by decide +kernel
theorem dX12_tried_25 : decode cX12_tried 25 = .ok (.iload_n 1, 1) := by decide +kernel
theorem dX12_tried_26 : decode cX12_tried 26 = .ok (.iconst 2, 1) := by decide +kernel
theorem dX12_tried_27 : decode cX12_tried 27 = .ok (.if_icmp .ne 14, 3) := by decide +kernel
theorem dX12_tried_30 : decode cX12_tried 30 = .ok (.aload_n 0, 1) := by decide +kernel
theorem dX12_tried_31 : decode cX12_tried 31 = .ok (.iload_n 2, 1) := by decide +kernel
theorem dX12_tried_32 : decode cX12_tried 32 = .ok (.invokevirtual 498, 3) := by decide +kernel
theorem dX12_tried_35 : decode cX12_tried 35 = .ok (.ifCond .ne 12, 3) := by decide +kernel
theorem dX12_tried_38 : decode cX12_tried 38 = .ok (.goto 7, 3) := by decide +kernel
theorem dX12_tried_41 : decode cX12_tried 41 = .ok (.iload_n 2, 1) := by decide +kernel
theorem dX12_tried_42 : decode cX12_tried 42 = .ok (.ifCond .eq 5, 3) := by decide +kernel
theorem dX12_tried_45 : decode cX12_tried 45 = .ok (.iconst (-1), 1) := by decide +kernel
theorem dX12_tried_46 : decode cX12_tried 46 = .ok (.ireturn, 1) := by decide +kernel
theorem dX12_tried_47 : decode cX12_tried 47 = .ok (.aload_n 0, 1) := by decide +kernel
theorem dX12_tried_48 : decode cX12_tried 48 = .ok (.invokevirtual 510, 3) := by decide +kernel
theorem dX12_tried_51 : decode cX12_tried 51 = .ok (.aload_n 0, 1) := by decide +kernel
theorem dX12_tried_52 : decode cX12_tried 52 = .ok (.iload_n 1, 1) := by decide +kernel
theorem dX12_tried_53 : decode cX12_tried 53 = .ok (.ifCond .ne 7, 3) := by decide +kernel
theorem dX12_tried_56 : decode cX12_tried 56 = .ok (.iconst 1, 1) := by decide +kernel
theorem dX12_tried_57 : decode cX12_tried 57 = .ok (.goto 4, 3) := by decide +kernel
theorem dX12_tried_60 : decode cX12_tried 60 = .ok (.iconst 0, 1) := by decide +kernel
theorem dX12_tried_61 : decode cX12_tried 61 = .ok (.putfield 414, 3) := by decide +kernel
theorem dX12_tried_64 : decode cX12_tried 64 = .ok (.aload_n 0, 1) := by decide +kernel
theorem dX12_tried_65 : decode cX12_tried 65 = .ok (.iload_n 1, 1) := by decide +kernel
theorem dX12_tried_66 : decode cX12_tried 66 = .ok (.iconst 1, 1) := by decide +kernel
theorem dX12_tried_67 : decode cX12_tried 67 = .ok (.if_icmp .ne 7, 3) := by decide +kernel
theorem dX12_tried_70 : decode cX12_tried 70 = .ok (.iconst 1, 1) := by decide +kernel
theorem dX12_tried_71 : decode cX12_tried 71 = .ok (.goto 4, 3) := by decide +kernel
theorem dX12_tried_74 : decode cX12_tried 74 = .ok (.iconst 0, 1) := by decide +kernel
theorem dX12_tried_75 : decode cX12_tried 75 = .ok (.putfield 417, 3) := by decide +kernel
theorem dX12_tried_78 : decode cX12_tried 78 = .ok (.iload_n 1, 1) := by decide +kernel
theorem dX12_tried_79 : decode cX12_tried 79 = .ok (.iconst 2, 1) := by decide +kernel
theorem dX12_tried_80 : decode cX12_tried 80 = .ok (.if_icmp .ne 9, 3) := by decide +kernel
theorem dX12_tried_83 : decode cX12_tried 83 = .ok (.aload_n 0, 1) := by decide +kernel
theorem dX12_tried_84 : decode cX12_tried 84 = .ok (.iconst 1, 1) := by decide +kernel
theorem dX12_tried_85 : decode cX12_tried 85 = .ok (.iload_n 2, 1) := by decide +kernel
theorem dX12_tried_86 : decode cX12_tried 86 = .ok (.invokevirtual 407, 3) := by decide +kernel
theorem dX12_tried_89 : decode cX12_tried 89 = .ok (.aload_n 0, 1) := by decide +kernel
theorem dX12_tried_90 : decode cX12_tried 90 = .ok (.iload_n 1, 1) := by decide +kernel
theorem dX12_tried_91 : decode cX12_tried 91 = .ok (.iconst 3, 1) := by decide +kernel
theorem dX12_tried_92 : decode cX12_tried 92 = .ok (.if_icmp .ne 7, 3) := by decide +kernel
theorem dX12_tried_95 : decode cX12_tried 95 = .ok (.iconst 1, 1) := by decide +kernel
theorem dX12_tried_96 : decode cX12_tried 96 = .ok (.goto 4, 3) := by decide +kernel
theorem dX12_tried_99 : decode cX12_tried 99 = .ok (.iconst 0, 1) := by decide +kernel
theorem dX12_tried_100 : decode cX12_tried 100 = .ok (.putfield 420, 3) := by decide +kernel
theorem dX12_tried_103 : decode cX12_tried 103 = .ok (.aload_n 0, 1) := by decide +kernel
theorem dX12_tried_104 : decode cX12_tried 104 = .ok (.iload_n 1, 1) := by decide +kernel
theorem dX12_tried_105 : decode cX12_tried 105 = .ok (.iconst 4, 1) := by decide +kernel
theorem dX12_tried_106 : decode cX12_tried 106 = .ok (.if_icmp .ne 7, 3) := by decide +kernel
theorem dX12_tried_109 : decode cX12_tried 109 = .ok (.iconst 1, 1) := by decide +kernel
theorem dX12_tried_110 : decode cX12_tried 110 = .ok (.goto 4, 3) := by decide +kernel
theorem dX12_tried_113 : decode cX12_tried 113 = .ok (.iconst 0, 1) := by decide +kernel
theorem dX12_tried_114 : decode cX12_tried 114 = .ok (.putfield 423, 3) := by decide +kernel
theorem dX12_tried_117 : decode cX12_tried 117 = .ok (.aload_n 0, 1) := by decide +kernel
theorem dX12_tried_118 : decode cX12_tried 118 = .ok (.iload_n 3, 1) := by decide +kernel
theorem dX12_tried_119 : decode cX12_tried 119 = .ok (.invokevirtual 513, 3) := by decide +kernel
theorem dX12_tried_122 : decode cX12_tried 122 = .ok (.aload_n 0, 1) := by decide +kernel
theorem dX12_tried_123 : decode cX12_tried 123 = .ok (.invokevirtual 395, 3) := by decide +kernel
theorem dX12_tried_126 : decode cX12_tried 126 = .ok (.aload_n 0, 1) := by decide +kernel
theorem dX12_tried_127 : decode cX12_tried 127 = .ok (.iconst 1, 1) := by decide +kernel
theorem dX12_tried_128 : decode cX12_tried 128 = .ok (.invokevirtual 516, 3) := by decide +kernel
theorem dX12_tried_131 : decode cX12_tried 131 = .ok (.aload_n 0, 1) := by decide +kernel
theorem dX12_tried_132 : decode cX12_tried 132 = .ok (.iconst 0, 1) := by decide +kernel
theorem dX12_tried_133 : decode cX12_tried 133 = .ok (.invokevirtual 516, 3) := by decide +kernel
theorem dX12_tried_136 : decode cX12_tried 136 = .ok (.isub, 1) := by decide +kernel
theorem dX12_tried_137 : decode cX12_tried 137 = .ok (.ireturn, 1) := by decide +kernel
theorem dX12_put_0 : decode cX12_put 0 = .ok (.iconst 0, 1) := by decide +kernel
theorem dX12_put_1 : decode cX12_put 1 = .ok (.istore_n 3, 1) := by decide +kernel
theorem dX12_put_2 : decode cX12_put 2 = .ok (.iload_n 3, 1) := by decide +kernel
theorem dX12_put_3 : decode cX12_put 3 = .ok (.bipush 72, 2) := by decide +kernel
theorem dX12_put_5 : decode cX12_put 5 = .ok (.if_icmp .ge 34, 3) := by decide +kernel
theorem dX12_put_8 : decode cX12_put 8 = .ok (.aload_n 1, 1) := by decide +kernel
theorem dX12_put_9 : decode cX12_put 9 = .ok (.iload_n 2, 1) := by decide +kernel
theorem dX12_put_10 : decode cX12_put 10 = .ok (.iload_n 3, 1) := by decide +kernel
theorem dX12_put_11 : decode cX12_put 11 = .ok (.iadd, 1) := by decide +kernel
theorem dX12_put_12 : decode cX12_put 12 = .ok (.aload_n 0, 1) := by decide +kernel
theorem dX12_put_13 : decode cX12_put 13 = .ok (.getfield 109, 3) := by decide +kernel
theorem dX12_put_16 : decode cX12_put 16 = .ok (.iload_n 3, 1) := by decide +kernel
theorem dX12_put_17 : decode cX12_put 17 = .ok (.iaload, 1) := by decide +kernel
theorem dX12_put_18 : decode cX12_put 18 = .ok (.iastore, 1) := by decide +kernel
theorem dX12_put_19 : decode cX12_put 19 = .ok (.aload_n 1, 1) := by decide +kernel
theorem dX12_put_20 : decode cX12_put 20 = .ok (.iload_n 2, 1) := by decide +kernel
theorem dX12_put_21 : decode cX12_put 21 = .ok (.bipush 72, 2) := by decide +kernel
theorem dX12_put_23 : decode cX12_put 23 = .ok (.iadd, 1) := by decide +kernel
theorem dX12_put_24 : decode cX12_put 24 = .ok (.iload_n 3, 1) := by decide +kernel
theorem dX12_put_25 : decode cX12_put 25 = .ok (.iadd, 1) := by decide +kernel
theorem dX12_put_26 : decode cX12_put 26 = .ok (.aload_n 0, 1) := by decide +kernel
theorem dX12_put_27 : decode cX12_put 27 = .ok (.getfield 112, 3) := by decide +kernel
theorem dX12_put_30 : decode cX12_put 30 = .ok (.iload_n 3, 1) := by decide +kernel
theorem dX12_put_31 : decode cX12_put 31 = .ok (.iaload, 1) := by decide +kernel
theorem dX12_put_32 : decode cX12_put 32 = .ok (.iastore, 1) := by decide +kernel
theorem dX12_put_33 : decode cX12_put 33 = .ok (.iinc 3 1, 3) := by decide +kernel
theorem dX12_put_36 : decode cX12_put 36 = .ok (.goto (-34), 3) := by decide +kernel
theorem dX12_put_39 : decode cX12_put 39 = .ok (.iconst 0, 1) := by decide +kernel
theorem dX12_put_40 : decode cX12_put 40 = .ok (.istore_n 3, 1) := by decide +kernel
theorem dX12_put_41 : decode cX12_put 41 = .ok (.iload_n 3, 1) := by decide +kernel
theorem dX12_put_42 : decode cX12_put 42 = .ok (.bipush 6, 2) := by decide +kernel
theorem dX12_put_44 : decode cX12_put 44 = .ok (.if_icmp .ge 24, 3) := by decide +kernel
theorem dX12_put_47 : decode cX12_put 47 = .ok (.aload_n 1, 1) := by decide +kernel
theorem dX12_put_48 : decode cX12_put 48 = .ok (.iload_n 2, 1) := by decide +kernel
theorem dX12_put_49 : decode cX12_put 49 = .ok (.sipush 144, 3) := by decide +kernel
theorem dX12_put_52 : decode cX12_put 52 = .ok (.iadd, 1) := by decide +kernel
theorem dX12_put_53 : decode cX12_put 53 = .ok (.iload_n 3, 1) := by decide +kernel
theorem dX12_put_54 : decode cX12_put 54 = .ok (.iadd, 1) := by decide +kernel
theorem dX12_put_55 : decode cX12_put 55 = .ok (.aload_n 0, 1) := by decide +kernel
theorem dX12_put_56 : decode cX12_put 56 = .ok (.getfield 115, 3) := by decide +kernel
theorem dX12_put_59 : decode cX12_put 59 = .ok (.iload_n 3, 1) := by decide +kernel
theorem dX12_put_60 : decode cX12_put 60 = .ok (.iaload, 1) := by decide +kernel
theorem dX12_put_61 : decode cX12_put 61 = .ok (.iastore, 1) := by decide +kernel
theorem dX12_put_62 : decode cX12_put 62 = .ok (.iinc 3 1, 3) := by decide +kernel
theorem dX12_put_65 : decode cX12_put 65 = .ok (.goto (-24), 3) := by decide +kernel
theorem dX12_put_68 : decode cX12_put 68 = .ok (.iconst 0, 1) := by decide +kernel
theorem dX12_put_69 : decode cX12_put 69 = .ok (.istore_n 3, 1) := by decide +kernel
theorem dX12_put_70 : decode cX12_put 70 = .ok (.iload_n 3, 1) := by decide +kernel
theorem dX12_put_71 : decode cX12_put 71 = .ok (.bipush 8, 2) := by decide +kernel
theorem dX12_put_73 : decode cX12_put 73 = .ok (.if_icmp .ge 24, 3) := by decide +kernel
theorem dX12_put_76 : decode cX12_put 76 = .ok (.aload_n 1, 1) := by decide +kernel
theorem dX12_put_77 : decode cX12_put 77 = .ok (.iload_n 2, 1) := by decide +kernel
theorem dX12_put_78 : decode cX12_put 78 = .ok (.sipush 150, 3) := by decide +kernel
theorem dX12_put_81 : decode cX12_put 81 = .ok (.iadd, 1) := by decide +kernel
theorem dX12_put_82 : decode cX12_put 82 = .ok (.iload_n 3, 1) := by decide +kernel
theorem dX12_put_83 : decode cX12_put 83 = .ok (.iadd, 1) := by decide +kernel
theorem dX12_put_84 : decode cX12_put 84 = .ok (.aload_n 0, 1) := by decide +kernel
theorem dX12_put_85 : decode cX12_put 85 = .ok (.getfield 118, 3) := by decide +kernel
theorem dX12_put_88 : decode cX12_put 88 = .ok (.iload_n 3, 1) := by decide +kernel
theorem dX12_put_89 : decode cX12_put 89 = .ok (.iaload, 1) := by decide +kernel
theorem dX12_put_90 : decode cX12_put 90 = .ok (.iastore, 1) := by decide +kernel
theorem dX12_put_91 : decode cX12_put 91 = .ok (.iinc 3 1, 3) := by decide +kernel
theorem dX12_put_94 : decode cX12_put 94 = .ok (.goto (-24), 3) := by decide +kernel
theorem dX12_put_97 : decode cX12_put 97 = .ok (.return_, 1) := by decide +kernel
theorem dX12_take_0 : decode cX12_take 0 = .ok (.iconst 0, 1) := by decide +kernel
theorem dX12_take_1 : decode cX12_take 1 = .ok (.istore_n 3, 1) := by decide +kernel
theorem dX12_take_2 : decode cX12_take 2 = .ok (.iload_n 3, 1) := by decide +kernel
theorem dX12_take_3 : decode cX12_take 3 = .ok (.bipush 72, 2) := by decide +kernel
theorem dX12_take_5 : decode cX12_take 5 = .ok (.if_icmp .ge 34, 3) := by decide +kernel
theorem dX12_take_8 : decode cX12_take 8 = .ok (.aload_n 0, 1) := by decide +kernel
theorem dX12_take_9 : decode cX12_take 9 = .ok (.getfield 109, 3) := by decide +kernel
theorem dX12_take_12 : decode cX12_take 12 = .ok (.iload_n 3, 1) := by decide +kernel
theorem dX12_take_13 : decode cX12_take 13 = .ok (.aload_n 1, 1) := by decide +kernel
theorem dX12_take_14 : decode cX12_take 14 = .ok (.iload_n 2, 1) := by decide +kernel
theorem dX12_take_15 : decode cX12_take 15 = .ok (.iload_n 3, 1) := by decide +kernel
theorem dX12_take_16 : decode cX12_take 16 = .ok (.iadd, 1) := by decide +kernel
theorem dX12_take_17 : decode cX12_take 17 = .ok (.iaload, 1) := by decide +kernel
theorem dX12_take_18 : decode cX12_take 18 = .ok (.iastore, 1) := by decide +kernel
theorem dX12_take_19 : decode cX12_take 19 = .ok (.aload_n 0, 1) := by decide +kernel
theorem dX12_take_20 : decode cX12_take 20 = .ok (.getfield 112, 3) := by decide +kernel
theorem dX12_take_23 : decode cX12_take 23 = .ok (.iload_n 3, 1) := by decide +kernel
theorem dX12_take_24 : decode cX12_take 24 = .ok (.aload_n 1, 1) := by decide +kernel
theorem dX12_take_25 : decode cX12_take 25 = .ok (.iload_n 2, 1) := by decide +kernel
theorem dX12_take_26 : decode cX12_take 26 = .ok (.bipush 72, 2) := by decide +kernel
theorem dX12_take_28 : decode cX12_take 28 = .ok (.iadd, 1) := by decide +kernel
theorem dX12_take_29 : decode cX12_take 29 = .ok (.iload_n 3, 1) := by decide +kernel
theorem dX12_take_30 : decode cX12_take 30 = .ok (.iadd, 1) := by decide +kernel
theorem dX12_take_31 : decode cX12_take 31 = .ok (.iaload, 1) := by decide +kernel
theorem dX12_take_32 : decode cX12_take 32 = .ok (.iastore, 1) := by decide +kernel
theorem dX12_take_33 : decode cX12_take 33 = .ok (.iinc 3 1, 3) := by decide +kernel
theorem dX12_take_36 : decode cX12_take 36 = .ok (.goto (-34), 3) := by decide +kernel
theorem dX12_take_39 : decode cX12_take 39 = .ok (.iconst 0, 1) := by decide +kernel
theorem dX12_take_40 : decode cX12_take 40 = .ok (.istore_n 3, 1) := by decide +kernel
theorem dX12_take_41 : decode cX12_take 41 = .ok (.iload_n 3, 1) := by decide +kernel
theorem dX12_take_42 : decode cX12_take 42 = .ok (.bipush 6, 2) := by decide +kernel
theorem dX12_take_44 : decode cX12_take 44 = .ok (.if_icmp .ge 24, 3) := by decide +kernel
theorem dX12_take_47 : decode cX12_take 47 = .ok (.aload_n 0, 1) := by decide +kernel
theorem dX12_take_48 : decode cX12_take 48 = .ok (.getfield 115, 3) := by decide +kernel
theorem dX12_take_51 : decode cX12_take 51 = .ok (.iload_n 3, 1) := by decide +kernel
theorem dX12_take_52 : decode cX12_take 52 = .ok (.aload_n 1, 1) := by decide +kernel
theorem dX12_take_53 : decode cX12_take 53 = .ok (.iload_n 2, 1) := by decide +kernel
theorem dX12_take_54 : decode cX12_take 54 = .ok (.sipush 144, 3) := by decide +kernel
theorem dX12_take_57 : decode cX12_take 57 = .ok (.iadd, 1) := by decide +kernel
theorem dX12_take_58 : decode cX12_take 58 = .ok (.iload_n 3, 1) := by decide +kernel
theorem dX12_take_59 : decode cX12_take 59 = .ok (.iadd, 1) := by decide +kernel
theorem dX12_take_60 : decode cX12_take 60 = .ok (.iaload, 1) := by decide +kernel
theorem dX12_take_61 : decode cX12_take 61 = .ok (.iastore, 1) := by decide +kernel
theorem dX12_take_62 : decode cX12_take 62 = .ok (.iinc 3 1, 3) := by decide +kernel
theorem dX12_take_65 : decode cX12_take 65 = .ok (.goto (-24), 3) := by decide +kernel
theorem dX12_take_68 : decode cX12_take 68 = .ok (.iconst 0, 1) := by decide +kernel
theorem dX12_take_69 : decode cX12_take 69 = .ok (.istore_n 3, 1) := by decide +kernel
theorem dX12_take_70 : decode cX12_take 70 = .ok (.iload_n 3, 1) := by decide +kernel
theorem dX12_take_71 : decode cX12_take 71 = .ok (.bipush 8, 2) := by decide +kernel
theorem dX12_take_73 : decode cX12_take 73 = .ok (.if_icmp .ge 24, 3) := by decide +kernel
theorem dX12_take_76 : decode cX12_take 76 = .ok (.aload_n 0, 1) := by decide +kernel
theorem dX12_take_77 : decode cX12_take 77 = .ok (.getfield 118, 3) := by decide +kernel
theorem dX12_take_80 : decode cX12_take 80 = .ok (.iload_n 3, 1) := by decide +kernel
theorem dX12_take_81 : decode cX12_take 81 = .ok (.aload_n 1, 1) := by decide +kernel
theorem dX12_take_82 : decode cX12_take 82 = .ok (.iload_n 2, 1) := by decide +kernel
theorem dX12_take_83 : decode cX12_take 83 = .ok (.sipush 150, 3) := by decide +kernel
theorem dX12_take_86 : decode cX12_take 86 = .ok (.iadd, 1) := by decide +kernel
theorem dX12_take_87 : decode cX12_take 87 = .ok (.iload_n 3, 1) := by decide +kernel
theorem dX12_take_88 : decode cX12_take 88 = .ok (.iadd, 1) := by decide +kernel
theorem dX12_take_89 : decode cX12_take 89 = .ok (.iaload, 1) := by decide +kernel
theorem dX12_take_90 : decode cX12_take 90 = .ok (.iastore, 1) := by decide +kernel
theorem dX12_take_91 : decode cX12_take 91 = .ok (.iinc 3 1, 3) := by decide +kernel
theorem dX12_take_94 : decode cX12_take 94 = .ok (.goto (-24), 3) := by decide +kernel
theorem dX12_take_97 : decode cX12_take 97 = .ok (.return_, 1) := by decide +kernel
theorem dX12_remember_0 : decode cX12_remember 0 = .ok (.aload_n 0, 1) := by decide +kernel
theorem dX12_remember_1 : decode cX12_remember 1 = .ok (.getfield 401, 3) := by decide +kernel
theorem dX12_remember_4 : decode cX12_remember 4 = .ok (.bipush 20, 2) := by decide +kernel
theorem dX12_remember_6 : decode cX12_remember 6 = .ok (.if_icmp .ne 44, 3) := by decide +kernel
theorem dX12_remember_9 : decode cX12_remember 9 = .ok (.iconst 0, 1) := by decide +kernel
theorem dX12_remember_10 : decode cX12_remember 10 = .ok (.istore_n 1, 1) := by decide +kernel
theorem dX12_remember_11 : decode cX12_remember 11 = .ok (.iload_n 1, 1) := by decide +kernel
theorem dX12_remember_12 : decode cX12_remember 12 = .ok (.sipush 3002, 3) := by decide +kernel
theorem dX12_remember_15 : decode cX12_remember 15 = .ok (.if_icmp .ge 25, 3) := by decide +kernel
theorem dX12_remember_18 : decode cX12_remember 18 = .ok (.aload_n 0, 1) := by decide +kernel
theorem dX12_remember_19 : decode cX12_remember 19 = .ok (.getfield 157, 3) := by decide +kernel
theorem dX12_remember_22 : decode cX12_remember 22 = .ok (.iload_n 1, 1) := by decide +kernel
theorem dX12_remember_23 : decode cX12_remember 23 = .ok (.aload_n 0, 1) := by decide +kernel
theorem dX12_remember_24 : decode cX12_remember 24 = .ok (.getfield 157, 3) := by decide +kernel
theorem dX12_remember_27 : decode cX12_remember 27 = .ok (.iload_n 1, 1) := by decide +kernel
theorem dX12_remember_28 : decode cX12_remember 28 = .ok (.sipush 158, 3) := by decide +kernel
theorem dX12_remember_31 : decode cX12_remember 31 = .ok (.iadd, 1) := by decide +kernel
theorem dX12_remember_32 : decode cX12_remember 32 = .ok (.iaload, 1) := by decide +kernel
theorem dX12_remember_33 : decode cX12_remember 33 = .ok (.iastore, 1) := by decide +kernel
theorem dX12_remember_34 : decode cX12_remember 34 = .ok (.iinc 1 1, 3) := by decide +kernel
theorem dX12_remember_37 : decode cX12_remember 37 = .ok (.goto (-26), 3) := by decide +kernel
theorem dX12_remember_40 : decode cX12_remember 40 = .ok (.aload_n 0, 1) := by decide +kernel
theorem dX12_remember_41 : decode cX12_remember 41 = .ok (.dup, 1) := by decide +kernel
theorem dX12_remember_42 : decode cX12_remember 42 = .ok (.getfield 401, 3) := by decide +kernel
theorem dX12_remember_45 : decode cX12_remember 45 = .ok (.iconst 1, 1) := by decide +kernel
theorem dX12_remember_46 : decode cX12_remember 46 = .ok (.isub, 1) := by decide +kernel
theorem dX12_remember_47 : decode cX12_remember 47 = .ok (.putfield 401, 3) := by decide +kernel
theorem dX12_remember_50 : decode cX12_remember 50 = .ok (.aload_n 0, 1) := by decide +kernel
theorem dX12_remember_51 : decode cX12_remember 51 = .ok (.aload_n 0, 1) := by decide +kernel
theorem dX12_remember_52 : decode cX12_remember 52 = .ok (.getfield 157, 3) := by decide +kernel
theorem dX12_remember_55 : decode cX12_remember 55 = .ok (.sipush 158, 3) := by decide +kernel
theorem dX12_remember_58 : decode cX12_remember 58 = .ok (.aload_n 0, 1) := by decide +kernel
theorem dX12_remember_59 : decode cX12_remember 59 = .ok (.getfield 401, 3) := by decide +kernel
theorem dX12_remember_62 : decode cX12_remember 62 = .ok (.imul, 1) := by decide +kernel
theorem dX12_remember_63 : decode cX12_remember 63 = .ok (.invokevirtual 571, 3) := by decide +kernel
theorem dX12_remember_66 : decode cX12_remember 66 = .ok (.aload_n 0, 1) := by decide +kernel
theorem dX12_remember_67 : decode cX12_remember 67 = .ok (.dup, 1) := by decide +kernel
theorem dX12_remember_68 : decode cX12_remember 68 = .ok (.getfield 401, 3) := by decide +kernel
theorem dX12_remember_71 : decode cX12_remember 71 = .ok (.iconst 1, 1) := by decide +kernel
theorem dX12_remember_72 : decode cX12_remember 72 = .ok (.iadd, 1) := by decide +kernel
theorem dX12_remember_73 : decode cX12_remember 73 = .ok (.putfield 401, 3) := by decide +kernel
theorem dX12_remember_76 : decode cX12_remember 76 = .ok (.return_, 1) := by decide +kernel
theorem dX12_undo_0 : decode cX12_undo 0 = .ok (.aload_n 0, 1) := by decide +kernel
theorem dX12_undo_1 : decode cX12_undo 1 = .ok (.iconst 0, 1) := by decide +kernel
theorem dX12_undo_2 : decode cX12_undo 2 = .ok (.putfield 175, 3) := by decide +kernel
theorem dX12_undo_5 : decode cX12_undo 5 = .ok (.aload_n 0, 1) := by decide +kernel
theorem dX12_undo_6 : decode cX12_undo 6 = .ok (.getfield 401, 3) := by decide +kernel
theorem dX12_undo_9 : decode cX12_undo 9 = .ok (.ifCond .ne 5, 3) := by decide +kernel
theorem dX12_undo_12 : decode cX12_undo 12 = .ok (.iconst (-1), 1) := by decide +kernel
theorem dX12_undo_13 : decode cX12_undo 13 = .ok (.ireturn, 1) := by decide +kernel
theorem dX12_undo_14 : decode cX12_undo 14 = .ok (.aload_n 0, 1) := by decide +kernel
theorem dX12_undo_15 : decode cX12_undo 15 = .ok (.dup, 1) := by decide +kernel
theorem dX12_undo_16 : decode cX12_undo 16 = .ok (.getfield 401, 3) := by decide +kernel
theorem dX12_undo_19 : decode cX12_undo 19 = .ok (.iconst 1, 1) := by decide +kernel
theorem dX12_undo_20 : decode cX12_undo 20 = .ok (.isub, 1) := by decide +kernel
theorem dX12_undo_21 : decode cX12_undo 21 = .ok (.putfield 401, 3) := by decide +kernel
theorem dX12_undo_24 : decode cX12_undo 24 = .ok (.aload_n 0, 1) := by decide +kernel
theorem dX12_undo_25 : decode cX12_undo 25 = .ok (.aload_n 0, 1) := by decide +kernel
theorem dX12_undo_26 : decode cX12_undo 26 = .ok (.getfield 157, 3) := by decide +kernel
theorem dX12_undo_29 : decode cX12_undo 29 = .ok (.sipush 158, 3) := by decide +kernel
theorem dX12_undo_32 : decode cX12_undo 32 = .ok (.aload_n 0, 1) := by decide +kernel
theorem dX12_undo_33 : decode cX12_undo 33 = .ok (.getfield 401, 3) := by decide +kernel
theorem dX12_undo_36 : decode cX12_undo 36 = .ok (.imul, 1) := by decide +kernel
theorem dX12_undo_37 : decode cX12_undo 37 = .ok (.invokevirtual 574, 3) := by decide +kernel
theorem dX12_undo_40 : decode cX12_undo 40 = .ok (.aload_n 0, 1) := by decide +kernel
theorem dX12_undo_41 : decode cX12_undo 41 = .ok (.getfield 401, 3) := by decide +kernel
theorem dX12_undo_44 : decode cX12_undo 44 = .ok (.ireturn, 1) := by decide +kernel
theorem dX12_keep_0 : decode cX12_keep 0 = .ok (.aload_n 0, 1) := by decide +kernel
theorem dX12_keep_1 : decode cX12_keep 1 = .ok (.iconst 0, 1) := by decide +kernel
theorem dX12_keep_2 : decode cX12_keep 2 = .ok (.putfield 175, 3) := by decide +kernel
theorem dX12_keep_5 : decode cX12_keep 5 = .ok (.aload_n 0, 1) := by decide +kernel
theorem dX12_keep_6 : decode cX12_keep 6 = .ok (.iconst 1, 1) := by decide +kernel
theorem dX12_keep_7 : decode cX12_keep 7 = .ok (.putfield 404, 3) := by decide +kernel
theorem dX12_keep_10 : decode cX12_keep 10 = .ok (.aload_n 0, 1) := by decide +kernel
theorem dX12_keep_11 : decode cX12_keep 11 = .ok (.aload_n 0, 1) := by decide +kernel
theorem dX12_keep_12 : decode cX12_keep 12 = .ok (.getfield 160, 3) := by decide +kernel
theorem dX12_keep_15 : decode cX12_keep 15 = .ok (.iconst 0, 1) := by decide +kernel
theorem dX12_keep_16 : decode cX12_keep 16 = .ok (.invokevirtual 571, 3) := by decide +kernel
theorem dX12_keep_19 : decode cX12_keep 19 = .ok (.iconst 0, 1) := by decide +kernel
theorem dX12_keep_20 : decode cX12_keep 20 = .ok (.istore_n 1, 1) := by decide +kernel
theorem dX12_keep_21 : decode cX12_keep 21 = .ok (.iload_n 1, 1) := by decide +kernel
theorem dX12_keep_22 : decode cX12_keep 22 = .ok (.bipush 48, 2) := by decide +kernel
theorem dX12_keep_24 : decode cX12_keep 24 = .ok (.if_icmp .ge 21, 3) := by decide +kernel
theorem dX12_keep_27 : decode cX12_keep 27 = .ok (.aload_n 0, 1) := by decide +kernel
theorem dX12_keep_28 : decode cX12_keep 28 = .ok (.getfield 163, 3) := by decide +kernel
theorem dX12_keep_31 : decode cX12_keep 31 = .ok (.iload_n 1, 1) := by decide +kernel
theorem dX12_keep_32 : decode cX12_keep 32 = .ok (.aload_n 0, 1) := by decide +kernel
theorem dX12_keep_33 : decode cX12_keep 33 = .ok (.getfield 106, 3) := by decide +kernel
theorem dX12_keep_36 : decode cX12_keep 36 = .ok (.iload_n 1, 1) := by decide +kernel
theorem dX12_keep_37 : decode cX12_keep 37 = .ok (.iaload, 1) := by decide +kernel
theorem dX12_keep_38 : decode cX12_keep 38 = .ok (.iastore, 1) := by decide +kernel
theorem dX12_keep_39 : decode cX12_keep 39 = .ok (.iinc 1 1, 3) := by decide +kernel
theorem dX12_keep_42 : decode cX12_keep 42 = .ok (.goto (-21), 3) := by decide +kernel
theorem dX12_keep_45 : decode cX12_keep 45 = .ok (.iconst 0, 1) := by decide +kernel
theorem dX12_keep_46 : decode cX12_keep 46 = .ok (.istore_n 1, 1) := by decide +kernel
theorem dX12_keep_47 : decode cX12_keep 47 = .ok (.iload_n 1, 1) := by decide +kernel
theorem dX12_keep_48 : decode cX12_keep 48 = .ok (.bipush 8, 2) := by decide +kernel
theorem dX12_keep_50 : decode cX12_keep 50 = .ok (.if_icmp .ge 51, 3) := by decide +kernel
theorem dX12_keep_53 : decode cX12_keep 53 = .ok (.aload_n 0, 1) := by decide +kernel
theorem dX12_keep_54 : decode cX12_keep 54 = .ok (.getfield 163, 3) := by decide +kernel
theorem dX12_keep_57 : decode cX12_keep 57 = .ok (.bipush 48, 2) := by decide +kernel
theorem dX12_keep_59 : decode cX12_keep 59 = .ok (.iload_n 1, 1) := by decide +kernel
theorem dX12_keep_60 : decode cX12_keep 60 = .ok (.iadd, 1) := by decide +kernel
theorem dX12_keep_61 : decode cX12_keep 61 = .ok (.aload_n 0, 1) := by decide +kernel
theorem dX12_keep_62 : decode cX12_keep 62 = .ok (.getfield 121, 3) := by decide +kernel
theorem dX12_keep_65 : decode cX12_keep 65 = .ok (.iload_n 1, 1) := by decide +kernel
theorem dX12_keep_66 : decode cX12_keep 66 = .ok (.iaload, 1) := by decide +kernel
theorem dX12_keep_67 : decode cX12_keep 67 = .ok (.iastore, 1) := by decide +kernel
theorem dX12_keep_68 : decode cX12_keep 68 = .ok (.aload_n 0, 1) := by decide +kernel
theorem dX12_keep_69 : decode cX12_keep 69 = .ok (.getfield 163, 3) := by decide +kernel
theorem dX12_keep_72 : decode cX12_keep 72 = .ok (.bipush 56, 2) := by decide +kernel
theorem dX12_keep_74 : decode cX12_keep 74 = .ok (.iload_n 1, 1) := by decide +kernel
theorem dX12_keep_75 : decode cX12_keep 75 = .ok (.iadd, 1) := by decide +kernel
theorem dX12_keep_76 : decode cX12_keep 76 = .ok (.aload_n 0, 1) := by decide +kernel
theorem dX12_keep_77 : decode cX12_keep 77 = .ok (.getfield 124, 3) := by decide +kernel
theorem dX12_keep_80 : decode cX12_keep 80 = .ok (.iload_n 1, 1) := by decide +kernel
theorem dX12_keep_81 : decode cX12_keep 81 = .ok (.iaload, 1) := by decide +kernel
theorem dX12_keep_82 : decode cX12_keep 82 = .ok (.iastore, 1) := by decide +kernel
theorem dX12_keep_83 : decode cX12_keep 83 = .ok (.aload_n 0, 1) := by decide +kernel
theorem dX12_keep_84 : decode cX12_keep 84 = .ok (.getfield 166, 3) := by decide +kernel
theorem dX12_keep_87 : decode cX12_keep 87 = .ok (.iload_n 1, 1) := by decide +kernel
theorem dX12_keep_88 : decode cX12_keep 88 = .ok (.aload_n 0, 1) := by decide +kernel
theorem dX12_keep_89 : decode cX12_keep 89 = .ok (.getfield 127, 3) := by decide +kernel
theorem dX12_keep_92 : decode cX12_keep 92 = .ok (.iload_n 1, 1) := by decide +kernel
theorem dX12_keep_93 : decode cX12_keep 93 = .ok (.baload, 1) := by decide +kernel
theorem dX12_keep_94 : decode cX12_keep 94 = .ok (.bastore, 1) := by decide +kernel
theorem dX12_keep_95 : decode cX12_keep 95 = .ok (.iinc 1 1, 3) := by decide +kernel
theorem dX12_keep_98 : decode cX12_keep 98 = .ok (.goto (-51), 3) := by decide +kernel
theorem dX12_keep_101 : decode cX12_keep 101 = .ok (.aload_n 0, 1) := by decide +kernel
theorem dX12_keep_102 : decode cX12_keep 102 = .ok (.getfield 163, 3) := by decide +kernel
theorem dX12_keep_105 : decode cX12_keep 105 = .ok (.bipush 64, 2) := by decide +kernel
theorem dX12_keep_107 : decode cX12_keep 107 = .ok (.aload_n 0, 1) := by decide +kernel
theorem dX12_keep_108 : decode cX12_keep 108 = .ok (.getfield 130, 3) := by decide +kernel
theorem dX12_keep_111 : decode cX12_keep 111 = .ok (.iconst 0, 1) := by decide +kernel
theorem dX12_keep_112 : decode cX12_keep 112 = .ok (.iaload, 1) := by decide +kernel
theorem dX12_keep_113 : decode cX12_keep 113 = .ok (.iastore, 1) := by decide +kernel
theorem dX12_keep_114 : decode cX12_keep 114 = .ok (.aload_n 0, 1) := by decide +kernel
theorem dX12_keep_115 : decode cX12_keep 115 = .ok (.getfield 163, 3) := by decide +kernel
theorem dX12_keep_118 : decode cX12_keep 118 = .ok (.bipush 65, 2) := by decide +kernel
theorem dX12_keep_120 : decode cX12_keep 120 = .ok (.aload_n 0, 1) := by decide +kernel
theorem dX12_keep_121 : decode cX12_keep 121 = .ok (.getfield 133, 3) := by decide +kernel
theorem dX12_keep_124 : decode cX12_keep 124 = .ok (.iconst 0, 1) := by decide +kernel
theorem dX12_keep_125 : decode cX12_keep 125 = .ok (.iaload, 1) := by decide +kernel
theorem dX12_keep_126 : decode cX12_keep 126 = .ok (.iastore, 1) := by decide +kernel
theorem dX12_keep_127 : decode cX12_keep 127 = .ok (.aload_n 0, 1) := by decide +kernel
theorem dX12_keep_128 : decode cX12_keep 128 = .ok (.aload_n 0, 1) := by decide +kernel
theorem dX12_keep_129 : decode cX12_keep 129 = .ok (.getfield 391, 3) := by decide +kernel
theorem dX12_keep_132 : decode cX12_keep 132 = .ok (.putfield 577, 3) := by decide +kernel
theorem dX12_keep_135 : decode cX12_keep 135 = .ok (.aload_n 0, 1) := by decide +kernel
theorem dX12_keep_136 : decode cX12_keep 136 = .ok (.getfield 133, 3) := by decide +kernel
theorem dX12_keep_139 : decode cX12_keep 139 = .ok (.iconst 0, 1) := by decide +kernel
theorem dX12_keep_140 : decode cX12_keep 140 = .ok (.iaload, 1) := by decide +kernel
theorem dX12_keep_141 : decode cX12_keep 141 = .ok (.ireturn, 1) := by decide +kernel
theorem dX12_back_0 : decode cX12_back 0 = .ok (.aload_n 0, 1) := by decide +kernel
theorem dX12_back_1 : decode cX12_back 1 = .ok (.iconst 0, 1) := by decide +kernel
theorem dX12_back_2 : decode cX12_back 2 = .ok (.putfield 175, 3) := by decide +kernel
theorem dX12_back_5 : decode cX12_back 5 = .ok (.aload_n 0, 1) := by decide +kernel
theorem dX12_back_6 : decode cX12_back 6 = .ok (.getfield 404, 3) := by decide +kernel
theorem dX12_back_9 : decode cX12_back 9 = .ok (.ifCond .ne 5, 3) := by decide +kernel
theorem dX12_back_12 : decode cX12_back 12 = .ok (.iconst (-1), 1) := by decide +kernel
theorem dX12_back_13 : decode cX12_back 13 = .ok (.ireturn, 1) := by decide +kernel
theorem dX12_back_14 : decode cX12_back 14 = .ok (.aload_n 0, 1) := by decide +kernel
theorem dX12_back_15 : decode cX12_back 15 = .ok (.aload_n 0, 1) := by decide +kernel
theorem dX12_back_16 : decode cX12_back 16 = .ok (.getfield 160, 3) := by decide +kernel
theorem dX12_back_19 : decode cX12_back 19 = .ok (.iconst 0, 1) := by decide +kernel
theorem dX12_back_20 : decode cX12_back 20 = .ok (.invokevirtual 574, 3) := by decide +kernel
theorem dX12_back_23 : decode cX12_back 23 = .ok (.iconst 0, 1) := by decide +kernel
theorem dX12_back_24 : decode cX12_back 24 = .ok (.istore_n 1, 1) := by decide +kernel
theorem dX12_back_25 : decode cX12_back 25 = .ok (.iload_n 1, 1) := by decide +kernel
theorem dX12_back_26 : decode cX12_back 26 = .ok (.bipush 48, 2) := by decide +kernel
theorem dX12_back_28 : decode cX12_back 28 = .ok (.if_icmp .ge 21, 3) := by decide +kernel
theorem dX12_back_31 : decode cX12_back 31 = .ok (.aload_n 0, 1) := by decide +kernel
theorem dX12_back_32 : decode cX12_back 32 = .ok (.getfield 106, 3) := by decide +kernel
theorem dX12_back_35 : decode cX12_back 35 = .ok (.iload_n 1, 1) := by decide +kernel
theorem dX12_back_36 : decode cX12_back 36 = .ok (.aload_n 0, 1) := by decide +kernel
theorem dX12_back_37 : decode cX12_back 37 = .ok (.getfield 163, 3) := by decide +kernel
theorem dX12_back_40 : decode cX12_back 40 = .ok (.iload_n 1, 1) := by decide +kernel
theorem dX12_back_41 : decode cX12_back 41 = .ok (.iaload, 1) := by decide +kernel
theorem dX12_back_42 : decode cX12_back 42 = .ok (.iastore, 1) := by decide +kernel
theorem dX12_back_43 : decode cX12_back 43 = .ok (.iinc 1 1, 3) := by decide +kernel
theorem dX12_back_46 : decode cX12_back 46 = .ok (.goto (-21), 3) := by decide +kernel
theorem dX12_back_49 : decode cX12_back 49 = .ok (.iconst 0, 1) := by decide +kernel
theorem dX12_back_50 : decode cX12_back 50 = .ok (.istore_n 1, 1) := by decide +kernel
theorem dX12_back_51 : decode cX12_back 51 = .ok (.iload_n 1, 1) := by decide +kernel
theorem dX12_back_52 : decode cX12_back 52 = .ok (.bipush 8, 2) := by decide +kernel
theorem dX12_back_54 : decode cX12_back 54 = .ok (.if_icmp .ge 51, 3) := by decide +kernel
theorem dX12_back_57 : decode cX12_back 57 = .ok (.aload_n 0, 1) := by decide +kernel
theorem dX12_back_58 : decode cX12_back 58 = .ok (.getfield 121, 3) := by decide +kernel
theorem dX12_back_61 : decode cX12_back 61 = .ok (.iload_n 1, 1) := by decide +kernel
theorem dX12_back_62 : decode cX12_back 62 = .ok (.aload_n 0, 1) := by decide +kernel
theorem dX12_back_63 : decode cX12_back 63 = .ok (.getfield 163, 3) := by decide +kernel
theorem dX12_back_66 : decode cX12_back 66 = .ok (.bipush 48, 2) := by decide +kernel
theorem dX12_back_68 : decode cX12_back 68 = .ok (.iload_n 1, 1) := by decide +kernel
theorem dX12_back_69 : decode cX12_back 69 = .ok (.iadd, 1) := by decide +kernel
theorem dX12_back_70 : decode cX12_back 70 = .ok (.iaload, 1) := by decide +kernel
theorem dX12_back_71 : decode cX12_back 71 = .ok (.iastore, 1) := by decide +kernel
theorem dX12_back_72 : decode cX12_back 72 = .ok (.aload_n 0, 1) := by decide +kernel
theorem dX12_back_73 : decode cX12_back 73 = .ok (.getfield 124, 3) := by decide +kernel
theorem dX12_back_76 : decode cX12_back 76 = .ok (.iload_n 1, 1) := by decide +kernel
theorem dX12_back_77 : decode cX12_back 77 = .ok (.aload_n 0, 1) := by decide +kernel
theorem dX12_back_78 : decode cX12_back 78 = .ok (.getfield 163, 3) := by decide +kernel
theorem dX12_back_81 : decode cX12_back 81 = .ok (.bipush 56, 2) := by decide +kernel
theorem dX12_back_83 : decode cX12_back 83 = .ok (.iload_n 1, 1) := by decide +kernel
theorem dX12_back_84 : decode cX12_back 84 = .ok (.iadd, 1) := by decide +kernel
theorem dX12_back_85 : decode cX12_back 85 = .ok (.iaload, 1) := by decide +kernel
theorem dX12_back_86 : decode cX12_back 86 = .ok (.iastore, 1) := by decide +kernel
theorem dX12_back_87 : decode cX12_back 87 = .ok (.aload_n 0, 1) := by decide +kernel
theorem dX12_back_88 : decode cX12_back 88 = .ok (.getfield 127, 3) := by decide +kernel
theorem dX12_back_91 : decode cX12_back 91 = .ok (.iload_n 1, 1) := by decide +kernel
theorem dX12_back_92 : decode cX12_back 92 = .ok (.aload_n 0, 1) := by decide +kernel
theorem dX12_back_93 : decode cX12_back 93 = .ok (.getfield 166, 3) := by decide +kernel
theorem dX12_back_96 : decode cX12_back 96 = .ok (.iload_n 1, 1) := by decide +kernel
theorem dX12_back_97 : decode cX12_back 97 = .ok (.baload, 1) := by decide +kernel
theorem dX12_back_98 : decode cX12_back 98 = .ok (.bastore, 1) := by decide +kernel
theorem dX12_back_99 : decode cX12_back 99 = .ok (.iinc 1 1, 3) := by decide +kernel
theorem dX12_back_102 : decode cX12_back 102 = .ok (.goto (-51), 3) := by decide +kernel
theorem dX12_back_105 : decode cX12_back 105 = .ok (.aload_n 0, 1) := by decide +kernel
theorem dX12_back_106 : decode cX12_back 106 = .ok (.getfield 130, 3) := by decide +kernel
theorem dX12_back_109 : decode cX12_back 109 = .ok (.iconst 0, 1) := by decide +kernel
theorem dX12_back_110 : decode cX12_back 110 = .ok (.aload_n 0, 1) := by decide +kernel
theorem dX12_back_111 : decode cX12_back 111 = .ok (.getfield 163, 3) := by decide +kernel
theorem dX12_back_114 : decode cX12_back 114 = .ok (.bipush 64, 2) := by decide +kernel
theorem dX12_back_116 : decode cX12_back 116 = .ok (.iaload, 1) := by decide +kernel
theorem dX12_back_117 : decode cX12_back 117 = .ok (.iastore, 1) := by decide +kernel
theorem dX12_back_118 : decode cX12_back 118 = .ok (.aload_n 0, 1) := by decide +kernel
theorem dX12_back_119 : decode cX12_back 119 = .ok (.getfield 133, 3) := by decide +kernel
theorem dX12_back_122 : decode cX12_back 122 = .ok (.iconst 0, 1) := by decide +kernel
theorem dX12_back_123 : decode cX12_back 123 = .ok (.aload_n 0, 1) := by decide +kernel
theorem dX12_back_124 : decode cX12_back 124 = .ok (.getfield 163, 3) := by decide +kernel
theorem dX12_back_127 : decode cX12_back 127 = .ok (.bipush 65, 2) := by decide +kernel
theorem dX12_back_129 : decode cX12_back 129 = .ok (.iaload, 1) := by decide +kernel
theorem dX12_back_130 : decode cX12_back 130 = .ok (.iastore, 1) := by decide +kernel
theorem dX12_back_131 : decode cX12_back 131 = .ok (.aload_n 0, 1) := by decide +kernel
theorem dX12_back_132 : decode cX12_back 132 = .ok (.aload_n 0, 1) := by decide +kernel
theorem dX12_back_133 : decode cX12_back 133 = .ok (.getfield 577, 3) := by decide +kernel
theorem dX12_back_136 : decode cX12_back 136 = .ok (.putfield 391, 3) := by decide +kernel
theorem dX12_back_139 : decode cX12_back 139 = .ok (.aload_n 0, 1) := by decide +kernel
theorem dX12_back_140 : decode cX12_back 140 = .ok (.iconst 0, 1) := by decide +kernel
theorem dX12_back_141 : decode cX12_back 141 = .ok (.putfield 401, 3) := by decide +kernel
theorem dX12_back_144 : decode cX12_back 144 = .ok (.aload_n 0, 1) := by decide +kernel
theorem dX12_back_145 : decode cX12_back 145 = .ok (.getfield 133, 3) := by decide +kernel
theorem dX12_back_148 : decode cX12_back 148 = .ok (.iconst 0, 1) := by decide +kernel
theorem dX12_back_149 : decode cX12_back 149 = .ok (.iaload, 1) := by decide +kernel
theorem dX12_back_150 : decode cX12_back 150 = .ok (.ireturn, 1) := by decide +kernel
theorem dX12_count_0 : decode cX12_count 0 = .ok (.aload_n 0, 1) := by decide +kernel
theorem dX12_count_1 : decode cX12_count 1 = .ok (.iconst 0, 1) := by decide +kernel
theorem dX12_count_2 : decode cX12_count 2 = .ok (.putfield 175, 3) := by decide +kernel
theorem dX12_count_5 : decode cX12_count 5 = .ok (.iconst 0, 1) := by decide +kernel
theorem dX12_count_6 : decode cX12_count 6 = .ok (.istore_n 2, 1) := by decide +kernel
theorem dX12_count_7 : decode cX12_count 7 = .ok (.iload_n 1, 1) := by decide +kernel
theorem dX12_count_8 : decode cX12_count 8 = .ok (.tableswitch 183 0 12 #[68, 73, 78, 83, 88, 95, 101, 128, 134, 141, 168, 173, 178], 68) := by decide +kernel
theorem dX12_count_76 : decode cX12_count 76 = .ok (.aload_n 0, 1) := by decide +kernel
theorem dX12_count_77 : decode cX12_count 77 = .ok (.getfield 258, 3) := by decide +kernel
theorem dX12_count_80 : decode cX12_count 80 = .ok (.ireturn, 1) := by decide +kernel
theorem dX12_count_81 : decode cX12_count 81 = .ok (.aload_n 0, 1) := by decide +kernel
theorem dX12_count_82 : decode cX12_count 82 = .ok (.getfield 261, 3) := by decide +kernel
theorem dX12_count_85 : decode cX12_count 85 = .ok (.ireturn, 1) := by decide +kernel
theorem dX12_count_86 : decode cX12_count 86 = .ok (.aload_n 0, 1) := by decide +kernel
theorem dX12_count_87 : decode cX12_count 87 = .ok (.getfield 264, 3) := by decide +kernel
theorem dX12_count_90 : decode cX12_count 90 = .ok (.ireturn, 1) := by decide +kernel
theorem dX12_count_91 : decode cX12_count 91 = .ok (.aload_n 0, 1) := by decide +kernel
theorem dX12_count_92 : decode cX12_count 92 = .ok (.getfield 273, 3) := by decide +kernel
theorem dX12_count_95 : decode cX12_count 95 = .ok (.ireturn, 1) := by decide +kernel
theorem dX12_count_96 : decode cX12_count 96 = .ok (.aload_n 0, 1) := by decide +kernel
theorem dX12_count_97 : decode cX12_count 97 = .ok (.getfield 133, 3) := by decide +kernel
theorem dX12_count_100 : decode cX12_count 100 = .ok (.iconst 0, 1) := by decide +kernel
theorem dX12_count_101 : decode cX12_count 101 = .ok (.iaload, 1) := by decide +kernel
theorem dX12_count_102 : decode cX12_count 102 = .ok (.ireturn, 1) := by decide +kernel
theorem dX12_count_103 : decode cX12_count 103 = .ok (.aload_n 0, 1) := by decide +kernel
theorem dX12_count_104 : decode cX12_count 104 = .ok (.iconst 0, 1) := by decide +kernel
theorem dX12_count_105 : decode cX12_count 105 = .ok (.invokevirtual 516, 3) := by decide +kernel
theorem dX12_count_108 : decode cX12_count 108 = .ok (.ireturn, 1) := by decide +kernel
theorem dX12_count_109 : decode cX12_count 109 = .ok (.iconst 0, 1) := by decide +kernel
theorem dX12_count_110 : decode cX12_count 110 = .ok (.istore_n 3, 1) := by decide +kernel
theorem dX12_count_111 : decode cX12_count 111 = .ok (.iload_n 3, 1) := by decide +kernel
theorem dX12_count_112 : decode cX12_count 112 = .ok (.aload_n 0, 1) := by decide +kernel
theorem dX12_count_113 : decode cX12_count 113 = .ok (.getfield 258, 3) := by decide +kernel
theorem dX12_count_116 : decode cX12_count 116 = .ok (.if_icmp .ge 18, 3) := by decide +kernel
theorem dX12_count_119 : decode cX12_count 119 = .ok (.iload_n 2, 1) := by decide +kernel
theorem dX12_count_120 : decode cX12_count 120 = .ok (.aload_n 0, 1) := by decide +kernel
theorem dX12_count_121 : decode cX12_count 121 = .ok (.getfield 115, 3) := by decide +kernel
theorem dX12_count_124 : decode cX12_count 124 = .ok (.iload_n 3, 1) := by decide +kernel
theorem dX12_count_125 : decode cX12_count 125 = .ok (.iaload, 1) := by decide +kernel
theorem dX12_count_126 : decode cX12_count 126 = .ok (.iadd, 1) := by decide +kernel
theorem dX12_count_127 : decode cX12_count 127 = .ok (.istore_n 2, 1) := by decide +kernel
theorem dX12_count_128 : decode cX12_count 128 = .ok (.iinc 3 1, 3) := by decide +kernel
theorem dX12_count_131 : decode cX12_count 131 = .ok (.goto (-20), 3) := by decide +kernel
theorem dX12_count_134 : decode cX12_count 134 = .ok (.iload_n 2, 1) := by decide +kernel
theorem dX12_count_135 : decode cX12_count 135 = .ok (.ireturn, 1) := by decide +kernel
theorem dX12_count_136 : decode cX12_count 136 = .ok (.aload_n 0, 1) := by decide +kernel
theorem dX12_count_137 : decode cX12_count 137 = .ok (.iconst 0, 1) := by decide +kernel
theorem dX12_count_138 : decode cX12_count 138 = .ok (.invokevirtual 522, 3) := by decide +kernel
theorem dX12_count_141 : decode cX12_count 141 = .ok (.ireturn, 1) := by decide +kernel
theorem dX12_count_142 : decode cX12_count 142 = .ok (.aload_n 0, 1) := by decide +kernel
theorem dX12_count_143 : decode cX12_count 143 = .ok (.getfield 130, 3) := by decide +kernel
theorem dX12_count_146 : decode cX12_count 146 = .ok (.iconst 0, 1) := by decide +kernel
theorem dX12_count_147 : decode cX12_count 147 = .ok (.iaload, 1) := by decide +kernel
theorem dX12_count_148 : decode cX12_count 148 = .ok (.ireturn, 1) := by decide +kernel
theorem dX12_count_149 : decode cX12_count 149 = .ok (.iconst 0, 1) := by decide +kernel
theorem dX12_count_150 : decode cX12_count 150 = .ok (.istore_n 3, 1) := by decide +kernel
theorem dX12_count_151 : decode cX12_count 151 = .ok (.iload_n 3, 1) := by decide +kernel
theorem dX12_count_152 : decode cX12_count 152 = .ok (.aload_n 0, 1) := by decide +kernel
theorem dX12_count_153 : decode cX12_count 153 = .ok (.getfield 261, 3) := by decide +kernel
theorem dX12_count_156 : decode cX12_count 156 = .ok (.if_icmp .ge 18, 3) := by decide +kernel
theorem dX12_count_159 : decode cX12_count 159 = .ok (.iload_n 2, 1) := by decide +kernel
theorem dX12_count_160 : decode cX12_count 160 = .ok (.aload_n 0, 1) := by decide +kernel
theorem dX12_count_161 : decode cX12_count 161 = .ok (.iconst 0, 1) := by decide +kernel
theorem dX12_count_162 : decode cX12_count 162 = .ok (.iload_n 3, 1) := by decide +kernel
theorem dX12_count_163 : decode cX12_count 163 = .ok (.invokevirtual 443, 3) := by decide +kernel
theorem dX12_count_166 : decode cX12_count 166 = .ok (.iadd, 1) := by decide +kernel
theorem dX12_count_167 : decode cX12_count 167 = .ok (.istore_n 2, 1) := by decide +kernel
theorem dX12_count_168 : decode cX12_count 168 = .ok (.iinc 3 1, 3) := by decide +kernel
theorem dX12_count_171 : decode cX12_count 171 = .ok (.goto (-20), 3) := by decide +kernel
theorem dX12_count_174 : decode cX12_count 174 = .ok (.iload_n 2, 1) := by decide +kernel
theorem dX12_count_175 : decode cX12_count 175 = .ok (.ireturn, 1) := by decide +kernel
theorem dX12_count_176 : decode cX12_count 176 = .ok (.aload_n 0, 1) := by decide +kernel
theorem dX12_count_177 : decode cX12_count 177 = .ok (.getfield 398, 3) := by decide +kernel
theorem dX12_count_180 : decode cX12_count 180 = .ok (.ireturn, 1) := by decide +kernel
theorem dX12_count_181 : decode cX12_count 181 = .ok (.aload_n 0, 1) := by decide +kernel
theorem dX12_count_182 : decode cX12_count 182 = .ok (.invokevirtual 556, 3) := by decide +kernel
theorem dX12_count_185 : decode cX12_count 185 = .ok (.ireturn, 1) := by decide +kernel
theorem dX12_count_186 : decode cX12_count 186 = .ok (.aload_n 0, 1) := by decide +kernel
theorem dX12_count_187 : decode cX12_count 187 = .ok (.getfield 401, 3) := by decide +kernel
theorem dX12_count_190 : decode cX12_count 190 = .ok (.ireturn, 1) := by decide +kernel
theorem dX12_count_191 : decode cX12_count 191 = .ok (.iconst (-1), 1) := by decide +kernel
theorem dX12_count_192 : decode cX12_count 192 = .ok (.ireturn, 1) := by decide +kernel
