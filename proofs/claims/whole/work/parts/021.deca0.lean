theorem dX1_note_0 : decode cX1_note 0 = .ok (.aload_n 0, 1) := by decide +kernel
theorem dX1_note_1 : decode cX1_note 1 = .ok (.getfield 24, 3) := by decide +kernel
theorem dX1_note_4 : decode cX1_note 4 = .ok (.bipush 20, 2) := by decide +kernel
theorem dX1_note_6 : decode cX1_note 6 = .ok (.if_icmp .lt 37, 3) := by decide +kernel
theorem dX1_note_9 : decode cX1_note 9 = .ok (.aload_n 0, 1) := by decide +kernel
theorem dX1_note_10 : decode cX1_note 10 = .ok (.getfield 9, 3) := by decide +kernel
theorem dX1_note_13 : decode cX1_note 13 = .ok (.invokestatic 28, 3) := by decide +kernel
theorem dX1_note_16 : decode cX1_note 16 = .ok (.aload_n 0, 1) := by decide +kernel
theorem dX1_note_17 : decode cX1_note 17 = .ok (.getfield 15, 3) := by decide +kernel
theorem dX1_note_20 : decode cX1_note 20 = .ok (.invokestatic 28, 3) := by decide +kernel
theorem dX1_note_23 : decode cX1_note 23 = .ok (.aload_n 0, 1) := by decide +kernel
theorem dX1_note_24 : decode cX1_note 24 = .ok (.getfield 18, 3) := by decide +kernel
theorem dX1_note_27 : decode cX1_note 27 = .ok (.invokestatic 28, 3) := by decide +kernel
theorem dX1_note_30 : decode cX1_note 30 = .ok (.aload_n 0, 1) := by decide +kernel
theorem dX1_note_31 : decode cX1_note 31 = .ok (.getfield 21, 3) := by decide +kernel
theorem dX1_note_34 : decode cX1_note 34 = .ok (.invokestatic 28, 3) := by decide +kernel
theorem dX1_note_37 : decode cX1_note 37 = .ok (.aload_n 0, 1) := by decide +kernel
theorem dX1_note_38 : decode cX1_note 38 = .ok (.bipush 19, 2) := by decide +kernel
theorem dX1_note_40 : decode cX1_note 40 = .ok (.putfield 24, 3) := by decide +kernel
theorem dX1_note_43 : decode cX1_note 43 = .ok (.aload_n 0, 1) := by decide +kernel
theorem dX1_note_44 : decode cX1_note 44 = .ok (.getfield 9, 3) := by decide +kernel
theorem dX1_note_47 : decode cX1_note 47 = .ok (.aload_n 0, 1) := by decide +kernel
theorem dX1_note_48 : decode cX1_note 48 = .ok (.getfield 24, 3) := by decide +kernel
theorem dX1_note_51 : decode cX1_note 51 = .ok (.iload_n 1, 1) := by decide +kernel
theorem dX1_note_52 : decode cX1_note 52 = .ok (.iastore, 1) := by decide +kernel
theorem dX1_note_53 : decode cX1_note 53 = .ok (.aload_n 0, 1) := by decide +kernel
theorem dX1_note_54 : decode cX1_note 54 = .ok (.getfield 15, 3) := by decide +kernel
theorem dX1_note_57 : decode cX1_note 57 = .ok (.aload_n 0, 1) := by decide +kernel
theorem dX1_note_58 : decode cX1_note 58 = .ok (.getfield 24, 3) := by decide +kernel
theorem dX1_note_61 : decode cX1_note 61 = .ok (.iload_n 2, 1) := by decide +kernel
theorem dX1_note_62 : decode cX1_note 62 = .ok (.iastore, 1) := by decide +kernel
theorem dX1_note_63 : decode cX1_note 63 = .ok (.aload_n 0, 1) := by decide +kernel
theorem dX1_note_64 : decode cX1_note 64 = .ok (.getfield 18, 3) := by decide +kernel
theorem dX1_note_67 : decode cX1_note 67 = .ok (.aload_n 0, 1) := by decide +kernel
theorem dX1_note_68 : decode cX1_note 68 = .ok (.getfield 24, 3) := by decide +kernel
theorem dX1_note_71 : decode cX1_note 71 = .ok (.iload_n 3, 1) := by decide +kernel
theorem dX1_note_72 : decode cX1_note 72 = .ok (.iastore, 1) := by decide +kernel
theorem dX1_note_73 : decode cX1_note 73 = .ok (.aload_n 0, 1) := by decide +kernel
theorem dX1_note_74 : decode cX1_note 74 = .ok (.getfield 21, 3) := by decide +kernel
theorem dX1_note_77 : decode cX1_note 77 = .ok (.aload_n 0, 1) := by decide +kernel
theorem dX1_note_78 : decode cX1_note 78 = .ok (.getfield 24, 3) := by decide +kernel
theorem dX1_note_81 : decode cX1_note 81 = .ok (.iload 4, 2) := by decide +kernel
theorem dX1_note_83 : decode cX1_note 83 = .ok (.iastore, 1) := by decide +kernel
theorem dX1_note_84 : decode cX1_note 84 = .ok (.aload_n 0, 1) := by decide +kernel
theorem dX1_note_85 : decode cX1_note 85 = .ok (.dup, 1) := by decide +kernel
theorem dX1_note_86 : decode cX1_note 86 = .ok (.getfield 24, 3) := by decide +kernel
theorem dX1_note_89 : decode cX1_note 89 = .ok (.iconst 1, 1) := by decide +kernel
theorem dX1_note_90 : decode cX1_note 90 = .ok (.iadd, 1) := by decide +kernel
theorem dX1_note_91 : decode cX1_note 91 = .ok (.putfield 24, 3) := by decide +kernel
theorem dX1_note_94 : decode cX1_note 94 = .ok (.return_, 1) := by decide +kernel
theorem dX1_forgetFirst_0 : decode cX1_forgetFirst 0 = .ok (.aload_n 0, 1) := by decide +kernel
theorem dX1_forgetFirst_1 : decode cX1_forgetFirst 1 = .ok (.iconst 1, 1) := by decide +kernel
theorem dX1_forgetFirst_2 : decode cX1_forgetFirst 2 = .ok (.aload_n 0, 1) := by decide +kernel
theorem dX1_forgetFirst_3 : decode cX1_forgetFirst 3 = .ok (.iconst 0, 1) := by decide +kernel
theorem dX1_forgetFirst_4 : decode cX1_forgetFirst 4 = .ok (.aload_n 0, 1) := by decide +kernel
theorem dX1_forgetFirst_5 : decode cX1_forgetFirst 5 = .ok (.arraylength, 1) := by decide +kernel
theorem dX1_forgetFirst_6 : decode cX1_forgetFirst 6 = .ok (.iconst 1, 1) := by decide +kernel
theorem dX1_forgetFirst_7 : decode cX1_forgetFirst 7 = .ok (.isub, 1) := by decide +kernel
theorem dX1_forgetFirst_8 : decode cX1_forgetFirst 8 = .ok (.invokestatic 32, 3) := by decide +kernel
theorem dX1_forgetFirst_11 : decode cX1_forgetFirst 11 = .ok (.return_, 1) := by decide +kernel
theorem dX2_clear_0 : decode cX2_clear 0 = .ok (.aload_n 0, 1) := by decide +kernel
theorem dX2_clear_1 : decode cX2_clear 1 = .ok (.iconst 0, 1) := by decide +kernel
theorem dX2_clear_2 : decode cX2_clear 2 = .ok (.putfield 18, 3) := by decide +kernel
theorem dX2_clear_5 : decode cX2_clear 5 = .ok (.aload_n 0, 1) := by decide +kernel
theorem dX2_clear_6 : decode cX2_clear 6 = .ok (.iconst 0, 1) := by decide +kernel
theorem dX2_clear_7 : decode cX2_clear 7 = .ok (.putfield 22, 3) := by decide +kernel
theorem dX2_clear_10 : decode cX2_clear 10 = .ok (.return_, 1) := by decide +kernel
theorem dX2_append_0 : decode cX2_append 0 = .ok (.aload_n 0, 1) := by decide +kernel
theorem dX2_append_1 : decode cX2_append 1 = .ok (.getfield 22, 3) := by decide +kernel
theorem dX2_append_4 : decode cX2_append 4 = .ok (.bipush 64, 2) := by decide +kernel
theorem dX2_append_6 : decode cX2_append 6 = .ok (.if_icmp .ge 33, 3) := by decide +kernel
theorem dX2_append_9 : decode cX2_append 9 = .ok (.aload_n 0, 1) := by decide +kernel
theorem dX2_append_10 : decode cX2_append 10 = .ok (.getfield 9, 3) := by decide +kernel
theorem dX2_append_13 : decode cX2_append 13 = .ok (.aload_n 0, 1) := by decide +kernel
theorem dX2_append_14 : decode cX2_append 14 = .ok (.getfield 22, 3) := by decide +kernel
theorem dX2_append_17 : decode cX2_append 17 = .ok (.iload_n 1, 1) := by decide +kernel
theorem dX2_append_18 : decode cX2_append 18 = .ok (.iastore, 1) := by decide +kernel
theorem dX2_append_19 : decode cX2_append 19 = .ok (.aload_n 0, 1) := by decide +kernel
theorem dX2_append_20 : decode cX2_append 20 = .ok (.getfield 15, 3) := by decide +kernel
theorem dX2_append_23 : decode cX2_append 23 = .ok (.aload_n 0, 1) := by decide +kernel
theorem dX2_append_24 : decode cX2_append 24 = .ok (.getfield 22, 3) := by decide +kernel
theorem dX2_append_27 : decode cX2_append 27 = .ok (.iload_n 2, 1) := by decide +kernel
theorem dX2_append_28 : decode cX2_append 28 = .ok (.iastore, 1) := by decide +kernel
theorem dX2_append_29 : decode cX2_append 29 = .ok (.aload_n 0, 1) := by decide +kernel
theorem dX2_append_30 : decode cX2_append 30 = .ok (.dup, 1) := by decide +kernel
theorem dX2_append_31 : decode cX2_append 31 = .ok (.getfield 22, 3) := by decide +kernel
theorem dX2_append_34 : decode cX2_append 34 = .ok (.iconst 1, 1) := by decide +kernel
theorem dX2_append_35 : decode cX2_append 35 = .ok (.iadd, 1) := by decide +kernel
theorem dX2_append_36 : decode cX2_append 36 = .ok (.putfield 22, 3) := by decide +kernel
theorem dX2_append_39 : decode cX2_append 39 = .ok (.return_, 1) := by decide +kernel
theorem dX2_worth_0 : decode cX2_worth 0 = .ok (.iconst 0, 1) := by decide +kernel
theorem dX2_worth_1 : decode cX2_worth 1 = .ok (.istore_n 3, 1) := by decide +kernel
theorem dX2_worth_2 : decode cX2_worth 2 = .ok (.iconst 0, 1) := by decide +kernel
theorem dX2_worth_3 : decode cX2_worth 3 = .ok (.istore 4, 2) := by decide +kernel
theorem dX2_worth_5 : decode cX2_worth 5 = .ok (.iload 4, 2) := by decide +kernel
theorem dX2_worth_7 : decode cX2_worth 7 = .ok (.aload_n 0, 1) := by decide +kernel
theorem dX2_worth_8 : decode cX2_worth 8 = .ok (.getfield 22, 3) := by decide +kernel
theorem dX2_worth_11 : decode cX2_worth 11 = .ok (.if_icmp .ge 187, 3) := by decide +kernel
theorem dX2_worth_14 : decode cX2_worth 14 = .ok (.iload_n 3, 1) := by decide +kernel
theorem dX2_worth_15 : decode cX2_worth 15 = .ok (.aload_n 2, 1) := by decide +kernel
theorem dX2_worth_16 : decode cX2_worth 16 = .ok (.arraylength, 1) := by decide +kernel
theorem dX2_worth_17 : decode cX2_worth 17 = .ok (.if_icmp .ge 181, 3) := by decide +kernel
theorem dX2_worth_20 : decode cX2_worth 20 = .ok (.aload_n 0, 1) := by decide +kernel
theorem dX2_worth_21 : decode cX2_worth 21 = .ok (.getfield 9, 3) := by decide +kernel
theorem dX2_worth_24 : decode cX2_worth 24 = .ok (.iload 4, 2) := by decide +kernel
theorem dX2_worth_26 : decode cX2_worth 26 = .ok (.iaload, 1) := by decide +kernel
theorem dX2_worth_27 : decode cX2_worth 27 = .ok (.istore 5, 2) := by decide +kernel
theorem dX2_worth_29 : decode cX2_worth 29 = .ok (.iload 5, 2) := by decide +kernel
theorem dX2_worth_31 : decode cX2_worth 31 = .ok (.bipush 23, 2) := by decide +kernel
theorem dX2_worth_33 : decode cX2_worth 33 = .ok (.if_icmp .ne 20, 3) := by decide +kernel
theorem dX2_worth_36 : decode cX2_worth 36 = .ok (.aload_n 2, 1) := by decide +kernel
theorem dX2_worth_37 : decode cX2_worth 37 = .ok (.iload_n 3, 1) := by decide +kernel
theorem dX2_worth_38 : decode cX2_worth 38 = .ok (.aload_n 0, 1) := by decide +kernel
theorem dX2_worth_39 : decode cX2_worth 39 = .ok (.getfield 15, 3) := by decide +kernel
theorem dX2_worth_42 : decode cX2_worth 42 = .ok (.iload 4, 2) := by decide +kernel
theorem dX2_worth_44 : decode cX2_worth 44 = .ok (.iaload, 1) := by decide +kernel
theorem dX2_worth_45 : decode cX2_worth 45 = .ok (.i2l, 1) := by decide +kernel
theorem dX2_worth_46 : decode cX2_worth 46 = .ok (.lastore, 1) := by decide +kernel
theorem dX2_worth_47 : decode cX2_worth 47 = .ok (.iinc 3 1, 3) := by decide +kernel
theorem dX2_worth_50 : decode cX2_worth 50 = .ok (.goto 142, 3) := by decide +kernel
theorem dX2_worth_53 : decode cX2_worth 53 = .ok (.iload 5, 2) := by decide +kernel
theorem dX2_worth_55 : decode cX2_worth 55 = .ok (.bipush 15, 2) := by decide +kernel
theorem dX2_worth_57 : decode cX2_worth 57 = .ok (.if_icmp .lt 27, 3) := by decide +kernel
theorem dX2_worth_60 : decode cX2_worth 60 = .ok (.iload 5, 2) := by decide +kernel
theorem dX2_worth_62 : decode cX2_worth 62 = .ok (.bipush 21, 2) := by decide +kernel
theorem dX2_worth_64 : decode cX2_worth 64 = .ok (.if_icmp .gt 20, 3) := by decide +kernel
theorem dX2_worth_67 : decode cX2_worth 67 = .ok (.aload_n 2, 1) := by decide +kernel
theorem dX2_worth_68 : decode cX2_worth 68 = .ok (.iload_n 3, 1) := by decide +kernel
theorem dX2_worth_69 : decode cX2_worth 69 = .ok (.aload_n 1, 1) := by decide +kernel
theorem dX2_worth_70 : decode cX2_worth 70 = .ok (.iload 5, 2) := by decide +kernel
theorem dX2_worth_72 : decode cX2_worth 72 = .ok (.bipush 15, 2) := by decide +kernel
theorem dX2_worth_74 : decode cX2_worth 74 = .ok (.isub, 1) := by decide +kernel
theorem dX2_worth_75 : decode cX2_worth 75 = .ok (.iaload, 1) := by decide +kernel
theorem dX2_worth_76 : decode cX2_worth 76 = .ok (.i2l, 1) := by decide +kernel
theorem dX2_worth_77 : decode cX2_worth 77 = .ok (.lastore, 1) := by decide +kernel
theorem dX2_worth_78 : decode cX2_worth 78 = .ok (.iinc 3 1, 3) := by decide +kernel
theorem dX2_worth_81 : decode cX2_worth 81 = .ok (.goto 111, 3) := by decide +kernel
theorem dX2_worth_84 : decode cX2_worth 84 = .ok (.iload 5, 2) := by decide +kernel
theorem dX2_worth_86 : decode cX2_worth 86 = .ok (.bipush 14, 2) := by decide +kernel
theorem dX2_worth_88 : decode cX2_worth 88 = .ok (.if_icmp .ne 35, 3) := by decide +kernel
theorem dX2_worth_91 : decode cX2_worth 91 = .ok (.iload_n 3, 1) := by decide +kernel
theorem dX2_worth_92 : decode cX2_worth 92 = .ok (.iconst 1, 1) := by decide +kernel
theorem dX2_worth_93 : decode cX2_worth 93 = .ok (.if_icmp .ge 7, 3) := by decide +kernel
theorem dX2_worth_96 : decode cX2_worth 96 = .ok (.ldc2_w 26, 3) := by decide +kernel
theorem dX2_worth_99 : decode cX2_worth 99 = .ok (.lreturn, 1) := by decide +kernel
theorem dX2_worth_100 : decode cX2_worth 100 = .ok (.aload_n 2, 1) := by decide +kernel
theorem dX2_worth_101 : decode cX2_worth 101 = .ok (.iload_n 3, 1) := by decide +kernel
theorem dX2_worth_102 : decode cX2_worth 102 = .ok (.iconst 1, 1) := by decide +kernel
theorem dX2_worth_103 : decode cX2_worth 103 = .ok (.isub, 1) := by decide +kernel
theorem dX2_worth_104 : decode cX2_worth 104 = .ok (.aload_n 2, 1) := by decide +kernel
theorem dX2_worth_105 : decode cX2_worth 105 = .ok (.iload_n 3, 1) := by decide +kernel
theorem dX2_worth_106 : decode cX2_worth 106 = .ok (.iconst 1, 1) := by decide +kernel
theorem dX2_worth_107 : decode cX2_worth 107 = .ok (.isub, 1) := by decide +kernel
theorem dX2_worth_108 : decode cX2_worth 108 = .ok (.laload, 1) := by decide +kernel
theorem dX2_worth_109 : decode cX2_worth 109 = .ok (.lconst 0, 1) := by decide +kernel
theorem dX2_worth_110 : decode cX2_worth 110 = .ok (.lcmp, 1) := by decide +kernel
theorem dX2_worth_111 : decode cX2_worth 111 = .ok (.ifCond .ne 7, 3) := by decide +kernel
theorem dX2_worth_114 : decode cX2_worth 114 = .ok (.lconst 1, 1) := by decide +kernel
theorem dX2_worth_115 : decode cX2_worth 115 = .ok (.goto 4, 3) := by decide +kernel
theorem dX2_worth_118 : decode cX2_worth 118 = .ok (.lconst 0, 1) := by decide +kernel
theorem dX2_worth_119 : decode cX2_worth 119 = .ok (.lastore, 1) := by decide +kernel
theorem dX2_worth_120 : decode cX2_worth 120 = .ok (.goto 72, 3) := by decide +kernel
theorem dX2_worth_123 : decode cX2_worth 123 = .ok (.iload_n 3, 1) := by decide +kernel
theorem dX2_worth_124 : decode cX2_worth 124 = .ok (.iconst 2, 1) := by decide +kernel
theorem dX2_worth_125 : decode cX2_worth 125 = .ok (.if_icmp .ge 7, 3) := by decide +kernel
theorem dX2_worth_128 : decode cX2_worth 128 = .ok (.ldc2_w 26, 3) := by decide +kernel
theorem dX2_worth_131 : decode cX2_worth 131 = .ok (.lreturn, 1) := by decide +kernel
theorem dX2_worth_132 : decode cX2_worth 132 = .ok (.iinc 3 (-1), 3) := by decide +kernel
theorem dX2_worth_135 : decode cX2_worth 135 = .ok (.aload_n 2, 1) := by decide +kernel
theorem dX2_worth_136 : decode cX2_worth 136 = .ok (.iload_n 3, 1) := by decide +kernel
theorem dX2_worth_137 : decode cX2_worth 137 = .ok (.iconst 1, 1) := by decide +kernel
theorem dX2_worth_138 : decode cX2_worth 138 = .ok (.isub, 1) := by decide +kernel
theorem dX2_worth_139 : decode cX2_worth 139 = .ok (.iload 5, 2) := by decide +kernel
theorem dX2_worth_141 : decode cX2_worth 141 = .ok (.bipush 33, 2) := by decide +kernel
theorem dX2_worth_143 : decode cX2_worth 143 = .ok (.if_icmp .ge 19, 3) := by decide +kernel
theorem dX2_worth_146 : decode cX2_worth 146 = .ok (.iload 5, 2) := by decide +kernel
theorem dX2_worth_148 : decode cX2_worth 148 = .ok (.aload_n 2, 1) := by decide +kernel
theorem dX2_worth_149 : decode cX2_worth 149 = .ok (.iload_n 3, 1) := by decide +kernel
theorem dX2_worth_150 : decode cX2_worth 150 = .ok (.iconst 1, 1) := by decide +kernel
theorem dX2_worth_151 : decode cX2_worth 151 = .ok (.isub, 1) := by decide +kernel
theorem dX2_worth_152 : decode cX2_worth 152 = .ok (.laload, 1) := by decide +kernel
theorem dX2_worth_153 : decode cX2_worth 153 = .ok (.aload_n 2, 1) := by decide +kernel
theorem dX2_worth_154 : decode cX2_worth 154 = .ok (.iload_n 3, 1) := by decide +kernel
theorem dX2_worth_155 : decode cX2_worth 155 = .ok (.laload, 1) := by decide +kernel
theorem dX2_worth_156 : decode cX2_worth 156 = .ok (.invokestatic 28, 3) := by decide +kernel
theorem dX2_worth_159 : decode cX2_worth 159 = .ok (.goto 16, 3) := by decide +kernel
theorem dX2_worth_162 : decode cX2_worth 162 = .ok (.iload 5, 2) := by decide +kernel
theorem dX2_worth_164 : decode cX2_worth 164 = .ok (.aload_n 2, 1) := by decide +kernel
theorem dX2_worth_165 : decode cX2_worth 165 = .ok (.iload_n 3, 1) := by decide +kernel
theorem dX2_worth_166 : decode cX2_worth 166 = .ok (.iconst 1, 1) := by decide +kernel
theorem dX2_worth_167 : decode cX2_worth 167 = .ok (.isub, 1) := by decide +kernel
theorem dX2_worth_168 : decode cX2_worth 168 = .ok (.laload, 1) := by decide +kernel
theorem dX2_worth_169 : decode cX2_worth 169 = .ok (.aload_n 2, 1) := by decide +kernel
theorem dX2_worth_170 : decode cX2_worth 170 = .ok (.iload_n 3, 1) := by decide +kernel
theorem dX2_worth_171 : decode cX2_worth 171 = .ok (.laload, 1) := by decide +kernel
theorem dX2_worth_172 : decode cX2_worth 172 = .ok (.invokestatic 32, 3) := by decide +kernel
theorem dX2_worth_175 : decode cX2_worth 175 = .ok (.lastore, 1) := by decide +kernel
theorem dX2_worth_176 : decode cX2_worth 176 = .ok (.aload_n 2, 1) := by decide +kernel
theorem dX2_worth_177 : decode cX2_worth 177 = .ok (.iload_n 3, 1) := by decide +kernel
theorem dX2_worth_178 : decode cX2_worth 178 = .ok (.iconst 1, 1) := by decide +kernel
theorem dX2_worth_179 : decode cX2_worth 179 = .ok (.isub, 1) := by decide +kernel
theorem dX2_worth_180 : decode cX2_worth 180 = .ok (.laload, 1) := by decide +kernel
theorem dX2_worth_181 : decode cX2_worth 181 = .ok (.ldc2_w 26, 3) := by decide +kernel
theorem dX2_worth_184 : decode cX2_worth 184 = .ok (.lcmp, 1) := by decide +kernel
theorem dX2_worth_185 : decode cX2_worth 185 = .ok (.ifCond .ne 7, 3) := by decide +kernel
theorem dX2_worth_188 : decode cX2_worth 188 = .ok (.ldc2_w 26, 3) := by decide +kernel
theorem dX2_worth_191 : decode cX2_worth 191 = .ok (.lreturn, 1) := by decide +kernel
theorem dX2_worth_192 : decode cX2_worth 192 = .ok (.iinc 4 1, 3) := by decide +kernel
theorem dX2_worth_195 : decode cX2_worth 195 = .ok (.goto (-190), 3) := by decide +kernel
theorem dX2_worth_198 : decode cX2_worth 198 = .ok (.iload_n 3, 1) := by decide +kernel
theorem dX2_worth_199 : decode cX2_worth 199 = .ok (.iconst 1, 1) := by decide +kernel
theorem dX2_worth_200 : decode cX2_worth 200 = .ok (.if_icmp .ne 9, 3) := by decide +kernel
theorem dX2_worth_203 : decode cX2_worth 203 = .ok (.aload_n 2, 1) := by decide +kernel
theorem dX2_worth_204 : decode cX2_worth 204 = .ok (.iconst 0, 1) := by decide +kernel
theorem dX2_worth_205 : decode cX2_worth 205 = .ok (.laload, 1) := by decide +kernel
theorem dX2_worth_206 : decode cX2_worth 206 = .ok (.goto 6, 3) := by decide +kernel
theorem dX2_worth_209 : decode cX2_worth 209 = .ok (.ldc2_w 26, 3) := by decide +kernel
theorem dX2_worth_212 : decode cX2_worth 212 = .ok (.lreturn, 1) := by decide +kernel
theorem dX2_compare_0 : decode cX2_compare 0 = .ok (.iload_n 0, 1) := by decide +kernel
theorem dX2_compare_1 : decode cX2_compare 1 = .ok (.tableswitch 219 12 31 #[95, 117, 219, 219, 219, 219, 219, 219, 219, 219, 219, 219, 219, 219, 219, 139, 155, 171, 187, 203], 95) := by decide +kernel
theorem dX2_compare_96 : decode cX2_compare 96 = .ok (.lload_n 1, 1) := by decide +kernel
theorem dX2_compare_97 : decode cX2_compare 97 = .ok (.lconst 0, 1) := by decide +kernel
theorem dX2_compare_98 : decode cX2_compare 98 = .ok (.lcmp, 1) := by decide +kernel
theorem dX2_compare_99 : decode cX2_compare 99 = .ok (.ifCond .ne 9, 3) := by decide +kernel
theorem dX2_compare_102 : decode cX2_compare 102 = .ok (.lload_n 3, 1) := by decide +kernel
theorem dX2_compare_103 : decode cX2_compare 103 = .ok (.lconst 0, 1) := by decide +kernel
theorem dX2_compare_104 : decode cX2_compare 104 = .ok (.lcmp, 1) := by decide +kernel
theorem dX2_compare_105 : decode cX2_compare 105 = .ok (.ifCond .eq 7, 3) := by decide +kernel
theorem dX2_compare_108 : decode cX2_compare 108 = .ok (.iconst 1, 1) := by decide +kernel
theorem dX2_compare_109 : decode cX2_compare 109 = .ok (.goto 4, 3) := by decide +kernel
theorem dX2_compare_112 : decode cX2_compare 112 = .ok (.iconst 0, 1) := by decide +kernel
theorem dX2_compare_113 : decode cX2_compare 113 = .ok (.istore 5, 2) := by decide +kernel
theorem dX2_compare_115 : decode cX2_compare 115 = .ok (.goto 118, 3) := by decide +kernel
theorem dX2_compare_118 : decode cX2_compare 118 = .ok (.lload_n 1, 1) := by decide +kernel
theorem dX2_compare_119 : decode cX2_compare 119 = .ok (.lconst 0, 1) := by decide +kernel
theorem dX2_compare_120 : decode cX2_compare 120 = .ok (.lcmp, 1) := by decide +kernel
theorem dX2_compare_121 : decode cX2_compare 121 = .ok (.ifCond .eq 13, 3) := by decide +kernel
theorem dX2_compare_124 : decode cX2_compare 124 = .ok (.lload_n 3, 1) := by decide +kernel
theorem dX2_compare_125 : decode cX2_compare 125 = .ok (.lconst 0, 1) := by decide +kernel
theorem dX2_compare_126 : decode cX2_compare 126 = .ok (.lcmp, 1) := by decide +kernel
theorem dX2_compare_127 : decode cX2_compare 127 = .ok (.ifCond .eq 7, 3) := by decide +kernel
theorem dX2_compare_130 : decode cX2_compare 130 = .ok (.iconst 1, 1) := by decide +kernel
theorem dX2_compare_131 : decode cX2_compare 131 = .ok (.goto 4, 3) := by decide +kernel
theorem dX2_compare_134 : decode cX2_compare 134 = .ok (.iconst 0, 1) := by decide +kernel
theorem dX2_compare_135 : decode cX2_compare 135 = .ok (.istore 5, 2) := by decide +kernel
theorem dX2_compare_137 : decode cX2_compare 137 = .ok (.goto 96, 3) := by decide +kernel
theorem dX2_compare_140 : decode cX2_compare 140 = .ok (.lload_n 1, 1) := by decide +kernel
theorem dX2_compare_141 : decode cX2_compare 141 = .ok (.lload_n 3, 1) := by decide +kernel
theorem dX2_compare_142 : decode cX2_compare 142 = .ok (.lcmp, 1) := by decide +kernel
theorem dX2_compare_143 : decode cX2_compare 143 = .ok (.ifCond .ge 7, 3) := by decide +kernel
theorem dX2_compare_146 : decode cX2_compare 146 = .ok (.iconst 1, 1) := by decide +kernel
theorem dX2_compare_147 : decode cX2_compare 147 = .ok (.goto 4, 3) := by decide +kernel
theorem dX2_compare_150 : decode cX2_compare 150 = .ok (.iconst 0, 1) := by decide +kernel
theorem dX2_compare_151 : decode cX2_compare 151 = .ok (.istore 5, 2) := by decide +kernel
theorem dX2_compare_153 : decode cX2_compare 153 = .ok (.goto 80, 3) := by decide +kernel
theorem dX2_compare_156 : decode cX2_compare 156 = .ok (.lload_n 1, 1) := by decide +kernel
theorem dX2_compare_157 : decode cX2_compare 157 = .ok (.lload_n 3, 1) := by decide +kernel
theorem dX2_compare_158 : decode cX2_compare 158 = .ok (.lcmp, 1) := by decide +kernel
theorem dX2_compare_159 : decode cX2_compare 159 = .ok (.ifCond .gt 7, 3) := by decide +kernel
theorem dX2_compare_162 : decode cX2_compare 162 = .ok (.iconst 1, 1) := by decide +kernel
theorem dX2_compare_163 : decode cX2_compare 163 = .ok (.goto 4, 3) := by decide +kernel
theorem dX2_compare_166 : decode cX2_compare 166 = .ok (.iconst 0, 1) := by decide +kernel
theorem dX2_compare_167 : decode cX2_compare 167 = .ok (.istore 5, 2) := by decide +kernel
theorem dX2_compare_169 : decode cX2_compare 169 = .ok (.goto 64, 3) := by decide +kernel
theorem dX2_compare_172 : decode cX2_compare 172 = .ok (.lload_n 1, 1) := by decide +kernel
theorem dX2_compare_173 : decode cX2_compare 173 = .ok (.lload_n 3, 1) := by decide +kernel
theorem dX2_compare_174 : decode cX2_compare 174 = .ok (.lcmp, 1) := by decide +kernel
theorem dX2_compare_175 : decode cX2_compare 175 = .ok (.ifCond .ne 7, 3) := by decide +kernel
theorem dX2_compare_178 : decode cX2_compare 178 = .ok (.iconst 1, 1) := by decide +kernel
theorem dX2_compare_179 : decode cX2_compare 179 = .ok (.goto 4, 3) := by decide +kernel
theorem dX2_compare_182 : decode cX2_compare 182 = .ok (.iconst 0, 1) := by decide +kernel
theorem dX2_compare_183 : decode cX2_compare 183 = .ok (.istore 5, 2) := by decide +kernel
theorem dX2_compare_185 : decode cX2_compare 185 = .ok (.goto 48, 3) := by decide +kernel
theorem dX2_compare_188 : decode cX2_compare 188 = .ok (.lload_n 1, 1) := by decide +kernel
theorem dX2_compare_189 : decode cX2_compare 189 = .ok (.lload_n 3, 1) := by decide +kernel
theorem dX2_compare_190 : decode cX2_compare 190 = .ok (.lcmp, 1) := by decide +kernel
theorem dX2_compare_191 : decode cX2_compare 191 = .ok (.ifCond .eq 7, 3) := by decide +kernel
theorem dX2_compare_194 : decode cX2_compare 194 = .ok (.iconst 1, 1) := by decide +kernel
theorem dX2_compare_195 : decode cX2_compare 195 = .ok (.goto 4, 3) := by decide +kernel
theorem dX2_compare_198 : decode cX2_compare 198 = .ok (.iconst 0, 1) := by decide +kernel
theorem dX2_compare_199 : decode cX2_compare 199 = .ok (.istore 5, 2) := by decide +kernel
theorem dX2_compare_201 : decode cX2_compare 201 = .ok (.goto 32, 3) := by decide +kernel
theorem dX2_compare_204 : decode cX2_compare 204 = .ok (.lload_n 1, 1) := by decide +kernel
theorem dX2_compare_205 : decode cX2_compare 205 = .ok (.lload_n 3, 1) := by decide +kernel
theorem dX2_compare_206 : decode cX2_compare 206 = .ok (.lcmp, 1) := by decide +kernel
theorem dX2_compare_207 : decode cX2_compare 207 = .ok (.ifCond .lt 7, 3) := by decide +kernel
theorem dX2_compare_210 : decode cX2_compare 210 = .ok (.iconst 1, 1) := by decide +kernel
theorem dX2_compare_211 : decode cX2_compare 211 = .ok (.goto 4, 3) := by decide +kernel
theorem dX2_compare_214 : decode cX2_compare 214 = .ok (.iconst 0, 1) := by decide +kernel
theorem dX2_compare_215 : decode cX2_compare 215 = .ok (.istore 5, 2) := by decide +kernel
theorem dX2_compare_217 : decode cX2_compare 217 = .ok (.goto 16, 3) := by decide +kernel
theorem dX2_compare_220 : decode cX2_compare 220 = .ok (.lload_n 1, 1) := by decide +kernel
theorem dX2_compare_221 : decode cX2_compare 221 = .ok (.lload_n 3, 1) := by decide +kernel
theorem dX2_compare_222 : decode cX2_compare 222 = .ok (.lcmp, 1) := by decide +kernel
theorem dX2_compare_223 : decode cX2_compare 223 = .ok (.ifCond .le 7, 3) := by decide +kernel
theorem dX2_compare_226 : decode cX2_compare 226 = .ok (.iconst 1, 1) := by decide +kernel
theorem dX2_compare_227 : decode cX2_compare 227 = .ok (.goto 4, 3) := by decide +kernel
theorem dX2_compare_230 : decode cX2_compare 230 = .ok (.iconst 0, 1) := by decide +kernel
theorem dX2_compare_231 : decode cX2_compare 231 = .ok (.istore 5, 2) := by decide +kernel
theorem dX2_compare_233 : decode cX2_compare 233 = .ok (.iload 5, 2) := by decide +kernel
theorem dX2_compare_235 : decode cX2_compare 235 = .ok (.ifCond .eq 7, 3) := by decide +kernel
theorem dX2_compare_238 : decode cX2_compare 238 = .ok (.lconst 1, 1) := by decide +kernel
theorem dX2_compare_239 : decode cX2_compare 239 = .ok (.goto 4, 3) := by decide +kernel
theorem dX2_compare_242 : decode cX2_compare 242 = .ok (.lconst 0, 1) := by decide +kernel
theorem dX2_compare_243 : decode cX2_compare 243 = .ok (.lreturn, 1) := by decide +kernel
theorem dX2_reckon_0 : decode cX2_reckon 0 = .ok (.iload_n 0, 1) := by decide +kernel
theorem dX2_reckon_1 : decode cX2_reckon 1 = .ok (.tableswitch 93 33 35 #[27, 35, 43], 27) := by decide +kernel
theorem dX2_reckon_28 : decode cX2_reckon 28 = .ok (.lload_n 1, 1) := by decide +kernel
theorem dX2_reckon_29 : decode cX2_reckon 29 = .ok (.lload_n 3, 1) := by decide +kernel
theorem dX2_reckon_30 : decode cX2_reckon 30 = .ok (.ladd, 1) := by decide +kernel
theorem dX2_reckon_31 : decode cX2_reckon 31 = .ok (.lstore 5, 2) := by decide +kernel
theorem dX2_reckon_33 : decode cX2_reckon 33 = .ok (.goto 76, 3) := by decide +kernel
theorem dX2_reckon_36 : decode cX2_reckon 36 = .ok (.lload_n 1, 1) := by decide +kernel
theorem dX2_reckon_37 : decode cX2_reckon 37 = .ok (.lload_n 3, 1) := by decide +kernel
theorem dX2_reckon_38 : decode cX2_reckon 38 = .ok (.lsub, 1) := by decide +kernel
theorem dX2_reckon_39 : decode cX2_reckon 39 = .ok (.lstore 5, 2) := by decide +kernel
theorem dX2_reckon_41 : decode cX2_reckon 41 = .ok (.goto 68, 3) := by decide +kernel
theorem dX2_reckon_44 : decode cX2_reckon 44 = .ok (.lload_n 1, 1) := by decide +kernel
theorem dX2_reckon_45 : decode cX2_reckon 45 = .ok (.lconst 0, 1) := by decide +kernel
theorem dX2_reckon_46 : decode cX2_reckon 46 = .ok (.lcmp, 1) := by decide +kernel
theorem dX2_reckon_47 : decode cX2_reckon 47 = .ok (.ifCond .eq 39, 3) := by decide +kernel
theorem dX2_reckon_50 : decode cX2_reckon 50 = .ok (.lload_n 3, 1) := by decide +kernel
theorem dX2_reckon_51 : decode cX2_reckon 51 = .ok (.lconst 0, 1) := by decide +kernel
theorem dX2_reckon_52 : decode cX2_reckon 52 = .ok (.lcmp, 1) := by decide +kernel
theorem dX2_reckon_53 : decode cX2_reckon 53 = .ok (.ifCond .ge 8, 3) := by decide +kernel
theorem dX2_reckon_56 : decode cX2_reckon 56 = .ok (.lload_n 3, 1) := by decide +kernel
theorem dX2_reckon_57 : decode cX2_reckon 57 = .ok (.lneg, 1) := by decide +kernel
theorem dX2_reckon_58 : decode cX2_reckon 58 = .ok (.goto 4, 3) := by decide +kernel
theorem dX2_reckon_61 : decode cX2_reckon 61 = .ok (.lload_n 3, 1) := by decide +kernel
theorem dX2_reckon_62 : decode cX2_reckon 62 = .ok (.ldc2_w 35, 3) := by decide +kernel
theorem dX2_reckon_65 : decode cX2_reckon 65 = .ok (.lload_n 1, 1) := by decide +kernel
theorem dX2_reckon_66 : decode cX2_reckon 66 = .ok (.lconst 0, 1) := by decide +kernel
theorem dX2_reckon_67 : decode cX2_reckon 67 = .ok (.lcmp, 1) := by decide +kernel
theorem dX2_reckon_68 : decode cX2_reckon 68 = .ok (.ifCond .ge 8, 3) := by decide +kernel
theorem dX2_reckon_71 : decode cX2_reckon 71 = .ok (.lload_n 1, 1) := by decide +kernel
theorem dX2_reckon_72 : decode cX2_reckon 72 = .ok (.lneg, 1) := by decide +kernel
theorem dX2_reckon_73 : decode cX2_reckon 73 = .ok (.goto 4, 3) := by decide +kernel
theorem dX2_reckon_76 : decode cX2_reckon 76 = .ok (.lload_n 1, 1) := by decide +kernel
theorem dX2_reckon_77 : decode cX2_reckon 77 = .ok (.ldiv, 1) := by decide +kernel
theorem dX2_reckon_78 : decode cX2_reckon 78 = .ok (.lcmp, 1) := by decide +kernel
theorem dX2_reckon_79 : decode cX2_reckon 79 = .ok (.ifCond .le 7, 3) := by decide +kernel
theorem dX2_reckon_82 : decode cX2_reckon 82 = .ok (.ldc2_w 26, 3) := by decide +kernel
theorem dX2_reckon_85 : decode cX2_reckon 85 = .ok (.lreturn, 1) := by decide +kernel
theorem dX2_reckon_86 : decode cX2_reckon 86 = .ok (.lload_n 1, 1) := by decide +kernel
theorem dX2_reckon_87 : decode cX2_reckon 87 = .ok (.lload_n 3, 1) := by decide +kernel
theorem dX2_reckon_88 : decode cX2_reckon 88 = .ok (.lmul, 1) := by decide +kernel
theorem dX2_reckon_89 : decode cX2_reckon 89 = .ok (.lstore 5, 2) := by decide +kernel
theorem dX2_reckon_91 : decode cX2_reckon 91 = .ok (.goto 18, 3) := by decide +kernel
theorem dX2_reckon_94 : decode cX2_reckon 94 = .ok (.lload_n 3, 1) := by decide +kernel
theorem dX2_reckon_95 : decode cX2_reckon 95 = .ok (.lconst 0, 1) := by decide +kernel
theorem dX2_reckon_96 : decode cX2_reckon 96 = .ok (.lcmp, 1) := by decide +kernel
theorem dX2_reckon_97 : decode cX2_reckon 97 = .ok (.ifCond .ne 7, 3) := by decide +kernel
theorem dX2_reckon_100 : decode cX2_reckon 100 = .ok (.ldc2_w 26, 3) := by decide +kernel
theorem dX2_reckon_103 : decode cX2_reckon 103 = .ok (.lreturn, 1) := by decide +kernel
theorem dX2_reckon_104 : decode cX2_reckon 104 = .ok (.lload_n 1, 1) := by decide +kernel
theorem dX2_reckon_105 : decode cX2_reckon 105 = .ok (.lload_n 3, 1) := by decide +kernel
theorem dX2_reckon_106 : decode cX2_reckon 106 = .ok (.ldiv, 1) := by decide +kernel
theorem dX2_reckon_107 : decode cX2_reckon 107 = .ok (.lstore 5, 2) := by decide +kernel
theorem dX2_reckon_109 : decode cX2_reckon 109 = .ok (.lload 5, 2) := by decide +kernel
theorem dX2_reckon_111 : decode cX2_reckon 111 = .ok (.ldc2_w 35, 3) := by decide +kernel
theorem dX2_reckon_114 : decode cX2_reckon 114 = .ok (.lcmp, 1) := by decide +kernel
theorem dX2_reckon_115 : decode cX2_reckon 115 = .ok (.ifCond .gt 12, 3) := by decide +kernel
theorem dX2_reckon_118 : decode cX2_reckon 118 = .ok (.lload 5, 2) := by decide +kernel
theorem dX2_reckon_120 : decode cX2_reckon 120 = .ok (.ldc2_w 37, 3) := by decide +kernel
theorem dX2_reckon_123 : decode cX2_reckon 123 = .ok (.lcmp, 1) := by decide +kernel
theorem dX2_reckon_124 : decode cX2_reckon 124 = .ok (.ifCond .ge 9, 3) := by decide +kernel
theorem dX2_reckon_127 : decode cX2_reckon 127 = .ok (.ldc2_w 26, 3) := by decide +kernel
theorem dX2_reckon_130 : decode cX2_reckon 130 = .ok (.goto 5, 3) := by decide +kernel
theorem dX2_reckon_133 : decode cX2_reckon 133 = .ok (.lload 5, 2) := by decide +kernel
theorem dX2_reckon_135 : decode cX2_reckon 135 = .ok (.lreturn, 1) := by decide +kernel
theorem dX3_read_0 : decode cX3_read 0 = .ok (.aload_n 0, 1) := by decide +kernel
theorem dX3_read_1 : decode cX3_read 1 = .ok (.getfield 21, 3) := by decide +kernel
theorem dX3_read_4 : decode cX3_read 4 = .ok (.invokevirtual 33, 3) := by decide +kernel
theorem dX3_read_7 : decode cX3_read 7 = .ok (.aload_n 0, 1) := by decide +kernel
theorem dX3_read_8 : decode cX3_read 8 = .ok (.iconst 0, 1) := by decide +kernel
theorem dX3_read_9 : decode cX3_read 9 = .ok (.putfield 36, 3) := by decide +kernel
theorem dX3_read_12 : decode cX3_read 12 = .ok (.aload_n 0, 1) := by decide +kernel
theorem dX3_read_13 : decode cX3_read 13 = .ok (.iconst 0, 1) := by decide +kernel
theorem dX3_read_14 : decode cX3_read 14 = .ok (.putfield 40, 3) := by decide +kernel
theorem dX3_read_17 : decode cX3_read 17 = .ok (.aload_n 0, 1) := by decide +kernel
theorem dX3_read_18 : decode cX3_read 18 = .ok (.iconst 0, 1) := by decide +kernel
theorem dX3_read_19 : decode cX3_read 19 = .ok (.putfield 43, 3) := by decide +kernel
theorem dX3_read_22 : decode cX3_read 22 = .ok (.aload_n 0, 1) := by decide +kernel
theorem dX3_read_23 : decode cX3_read 23 = .ok (.iconst (-1), 1) := by decide +kernel
theorem dX3_read_24 : decode cX3_read 24 = .ok (.putfield 29, 3) := by decide +kernel
theorem dX3_read_27 : decode cX3_read 27 = .ok (.aload_n 0, 1) := by decide +kernel
theorem dX3_read_28 : decode cX3_read 28 = .ok (.getfield 12, 3) := by decide +kernel
theorem dX3_read_31 : decode cX3_read 31 = .ok (.iload_n 1, 1) := by decide +kernel
theorem dX3_read_32 : decode cX3_read 32 = .ok (.invokevirtual 46, 3) := by decide +kernel
theorem dX3_read_35 : decode cX3_read 35 = .ok (.iconst 0, 1) := by decide +kernel
theorem dX3_read_36 : decode cX3_read 36 = .ok (.istore_n 2, 1) := by decide +kernel
theorem dX3_read_37 : decode cX3_read 37 = .ok (.iload_n 2, 1) := by decide +kernel
theorem dX3_read_38 : decode cX3_read 38 = .ok (.sipush 700, 3) := by decide +kernel
theorem dX3_read_41 : decode cX3_read 41 = .ok (.if_icmp .gt 150, 3) := by decide +kernel
theorem dX3_read_44 : decode cX3_read 44 = .ok (.aload_n 0, 1) := by decide +kernel
theorem dX3_read_45 : decode cX3_read 45 = .ok (.getfield 12, 3) := by decide +kernel
theorem dX3_read_48 : decode cX3_read 48 = .ok (.getfield 50, 3) := by decide +kernel
theorem dX3_read_51 : decode cX3_read 51 = .ok (.bipush 37, 2) := by decide +kernel
theorem dX3_read_53 : decode cX3_read 53 = .ok (.if_icmp .eq 138, 3) := by decide +kernel
theorem dX3_read_56 : decode cX3_read 56 = .ok (.aload_n 0, 1) := by decide +kernel
theorem dX3_read_57 : decode cX3_read 57 = .ok (.getfield 43, 3) := by decide +kernel
theorem dX3_read_60 : decode cX3_read 60 = .ok (.ifCond .ne 131, 3) := by decide +kernel
theorem dX3_read_63 : decode cX3_read 63 = .ok (.aload_n 0, 1) := by decide +kernel
theorem dX3_read_64 : decode cX3_read 64 = .ok (.getfield 12, 3) := by decide +kernel
theorem dX3_read_67 : decode cX3_read 67 = .ok (.getfield 50, 3) := by decide +kernel
theorem dX3_read_70 : decode cX3_read 70 = .ok (.tableswitch 106 0 8 #[50, 57, 64, 64, 71, 78, 85, 92, 99], 50) := by decide +kernel
theorem dX3_read_120 : decode cX3_read 120 = .ok (.aload_n 0, 1) := by decide +kernel
theorem dX3_read_121 : decode cX3_read 121 = .ok (.invokevirtual 53, 3) := by decide +kernel
theorem dX3_read_124 : decode cX3_read 124 = .ok (.goto 57, 3) := by decide +kernel
theorem dX3_read_127 : decode cX3_read 127 = .ok (.aload_n 0, 1) := by decide +kernel
theorem dX3_read_128 : decode cX3_read 128 = .ok (.invokevirtual 56, 3) := by decide +kernel
theorem dX3_read_131 : decode cX3_read 131 = .ok (.goto 50, 3) := by decide +kernel
theorem dX3_read_134 : decode cX3_read 134 = .ok (.aload_n 0, 1) := by decide +kernel
theorem dX3_read_135 : decode cX3_read 135 = .ok (.invokevirtual 59, 3) := by decide +kernel
theorem dX3_read_138 : decode cX3_read 138 = .ok (.goto 43, 3) := by decide +kernel
theorem dX3_read_141 : decode cX3_read 141 = .ok (.aload_n 0, 1) := by decide +kernel
theorem dX3_read_142 : decode cX3_read 142 = .ok (.invokevirtual 62, 3) := by decide +kernel
theorem dX3_read_145 : decode cX3_read 145 = .ok (.goto 36, 3) := by decide +kernel
theorem dX3_read_148 : decode cX3_read 148 = .ok (.aload_n 0, 1) := by decide +kernel
theorem dX3_read_149 : decode cX3_read 149 = .ok (.invokevirtual 65, 3) := by decide +kernel
theorem dX3_read_152 : decode cX3_read 152 = .ok (.goto 29, 3) := by decide +kernel
theorem dX3_read_155 : decode cX3_read 155 = .ok (.aload_n 0, 1) := by decide +kernel
theorem dX3_read_156 : decode cX3_read 156 = .ok (.invokevirtual 68, 3) := by decide +kernel
theorem dX3_read_159 : decode cX3_read 159 = .ok (.goto 22, 3) := by decide +kernel
theorem dX3_read_162 : decode cX3_read 162 = .ok (.aload_n 0, 1) := by decide +kernel
theorem dX3_read_163 : decode cX3_read 163 = .ok (.invokevirtual 71, 3) := by decide +kernel
theorem dX3_read_166 : decode cX3_read 166 = .ok (.goto 15, 3) := by decide +kernel
theorem dX3_read_169 : decode cX3_read 169 = .ok (.aload_n 0, 1) := by decide +kernel
theorem dX3_read_170 : decode cX3_read 170 = .ok (.invokevirtual 74, 3) := by decide +kernel
theorem dX3_read_173 : decode cX3_read 173 = .ok (.goto 8, 3) := by decide +kernel
theorem dX3_read_176 : decode cX3_read 176 = .ok (.aload_n 0, 1) := by decide +kernel
theorem dX3_read_177 : decode cX3_read 177 = .ok (.iconst 1, 1) := by decide +kernel
theorem dX3_read_178 : decode cX3_read 178 = .ok (.invokevirtual 77, 3) := by decide +kernel
theorem dX3_read_181 : decode cX3_read 181 = .ok (.aload_n 0, 1) := by decide +kernel
theorem dX3_read_182 : decode cX3_read 182 = .ok (.invokevirtual 80, 3) := by decide +kernel
theorem dX3_read_185 : decode cX3_read 185 = .ok (.iinc 2 1, 3) := by decide +kernel
theorem dX3_read_188 : decode cX3_read 188 = .ok (.goto (-151), 3) := by decide +kernel
theorem dX3_read_191 : decode cX3_read 191 = .ok (.aload_n 0, 1) := by decide +kernel
theorem dX3_read_192 : decode cX3_read 192 = .ok (.getfield 43, 3) := by decide +kernel
theorem dX3_read_195 : decode cX3_read 195 = .ok (.ifCond .ne 7, 3) := by decide +kernel
theorem dX3_read_198 : decode cX3_read 198 = .ok (.iconst 1, 1) := by decide +kernel
theorem dX3_read_199 : decode cX3_read 199 = .ok (.goto 4, 3) := by decide +kernel
theorem dX3_read_202 : decode cX3_read 202 = .ok (.iconst 0, 1) := by decide +kernel
theorem dX3_read_203 : decode cX3_read 203 = .ok (.ireturn, 1) := by decide +kernel
theorem dX3_endLine_0 : decode cX3_endLine 0 = .ok (.aload_n 0, 1) := by decide +kernel
theorem dX3_endLine_1 : decode cX3_endLine 1 = .ok (.getfield 43, 3) := by decide +kernel
theorem dX3_endLine_4 : decode cX3_endLine 4 = .ok (.ifCond .ne 20, 3) := by decide +kernel
theorem dX3_endLine_7 : decode cX3_endLine 7 = .ok (.aload_n 0, 1) := by decide +kernel
theorem dX3_endLine_8 : decode cX3_endLine 8 = .ok (.getfield 12, 3) := by decide +kernel
theorem dX3_endLine_11 : decode cX3_endLine 11 = .ok (.getfield 50, 3) := by decide +kernel
theorem dX3_endLine_14 : decode cX3_endLine 14 = .ok (.bipush 26, 2) := by decide +kernel
theorem dX3_endLine_16 : decode cX3_endLine 16 = .ok (.if_icmp .eq 8, 3) := by decide +kernel
theorem dX3_endLine_19 : decode cX3_endLine 19 = .ok (.aload_n 0, 1) := by decide +kernel
theorem dX3_endLine_20 : decode cX3_endLine 20 = .ok (.iconst 1, 1) := by decide +kernel
theorem dX3_endLine_21 : decode cX3_endLine 21 = .ok (.invokevirtual 77, 3) := by decide +kernel
theorem dX3_endLine_24 : decode cX3_endLine 24 = .ok (.aload_n 0, 1) := by decide +kernel
theorem dX3_endLine_25 : decode cX3_endLine 25 = .ok (.getfield 43, 3) := by decide +kernel
theorem dX3_endLine_28 : decode cX3_endLine 28 = .ok (.ifCond .ne 23, 3) := by decide +kernel
theorem dX3_endLine_31 : decode cX3_endLine 31 = .ok (.aload_n 0, 1) := by decide +kernel
theorem dX3_endLine_32 : decode cX3_endLine 32 = .ok (.getfield 12, 3) := by decide +kernel
theorem dX3_endLine_35 : decode cX3_endLine 35 = .ok (.invokevirtual 83, 3) := by decide +kernel
theorem dX3_endLine_38 : decode cX3_endLine 38 = .ok (.aload_n 0, 1) := by decide +kernel
theorem dX3_endLine_39 : decode cX3_endLine 39 = .ok (.getfield 21, 3) := by decide +kernel
theorem dX3_endLine_42 : decode cX3_endLine 42 = .ok (.dup, 1) := by decide +kernel
theorem dX3_endLine_43 : decode cX3_endLine 43 = .ok (.getfield 86, 3) := by decide +kernel
theorem dX3_endLine_46 : decode cX3_endLine 46 = .ok (.iconst 1, 1) := by decide +kernel
theorem dX3_endLine_47 : decode cX3_endLine 47 = .ok (.iadd, 1) := by decide +kernel
theorem dX3_endLine_48 : decode cX3_endLine 48 = .ok (.putfield 86, 3) := by decide +kernel
theorem dX3_endLine_51 : decode cX3_endLine 51 = .ok (.return_, 1) := by decide +kernel
theorem dX3_fail_0 : decode cX3_fail 0 = .ok (.aload_n 0, 1) := by decide +kernel
theorem dX3_fail_1 : decode cX3_fail 1 = .ok (.iload_n 1, 1) := by decide +kernel
theorem dX3_fail_2 : decode cX3_fail 2 = .ok (.putfield 43, 3) := by decide +kernel
theorem dX3_fail_5 : decode cX3_fail 5 = .ok (.aload_n 0, 1) := by decide +kernel
theorem dX3_fail_6 : decode cX3_fail 6 = .ok (.aload_n 0, 1) := by decide +kernel
theorem dX3_fail_7 : decode cX3_fail 7 = .ok (.getfield 12, 3) := by decide +kernel
theorem dX3_fail_10 : decode cX3_fail 10 = .ok (.getfield 89, 3) := by decide +kernel
theorem dX3_fail_13 : decode cX3_fail 13 = .ok (.putfield 29, 3) := by decide +kernel
theorem dX3_fail_16 : decode cX3_fail 16 = .ok (.return_, 1) := by decide +kernel
theorem dX3_readHouse_0 : decode cX3_readHouse 0 = .ok (.aload_n 0, 1) := by decide +kernel
theorem dX3_readHouse_1 : decode cX3_readHouse 1 = .ok (.getfield 21, 3) := by decide +kernel
theorem dX3_readHouse_4 : decode cX3_readHouse 4 = .ok (.getfield 92, 3) := by decide +kernel
theorem dX3_readHouse_7 : decode cX3_readHouse 7 = .ok (.istore_n 1, 1) := by decide +kernel
theorem dX3_readHouse_8 : decode cX3_readHouse 8 = .ok (.iload_n 1, 1) := by decide +kernel
theorem dX3_readHouse_9 : decode cX3_readHouse 9 = .ok (.bipush 6, 2) := by decide +kernel
theorem dX3_readHouse_11 : decode cX3_readHouse 11 = .ok (.if_icmp .lt 9, 3) := by decide +kernel
theorem dX3_readHouse_14 : decode cX3_readHouse 14 = .ok (.aload_n 0, 1) := by decide +kernel
theorem dX3_readHouse_15 : decode cX3_readHouse 15 = .ok (.iconst 2, 1) := by decide +kernel
theorem dX3_readHouse_16 : decode cX3_readHouse 16 = .ok (.invokevirtual 77, 3) := by decide +kernel
theorem dX3_readHouse_19 : decode cX3_readHouse 19 = .ok (.return_, 1) := by decide +kernel
theorem dX3_readHouse_20 : decode cX3_readHouse 20 = .ok (.aload_n 0, 1) := by decide +kernel
theorem dX3_readHouse_21 : decode cX3_readHouse 21 = .ok (.getfield 12, 3) := by decide +kernel
theorem dX3_readHouse_24 : decode cX3_readHouse 24 = .ok (.invokevirtual 83, 3) := by decide +kernel
theorem dX3_readHouse_27 : decode cX3_readHouse 27 = .ok (.aload_n 0, 1) := by decide +kernel
theorem dX3_readHouse_28 : decode cX3_readHouse 28 = .ok (.aload_n 0, 1) := by decide +kernel
theorem dX3_readHouse_29 : decode cX3_readHouse 29 = .ok (.getfield 21, 3) := by decide +kernel
theorem dX3_readHouse_32 : decode cX3_readHouse 32 = .ok (.getfield 95, 3) := by decide +kernel
theorem dX3_readHouse_35 : decode cX3_readHouse 35 = .ok (.iload_n 1, 1) := by decide +kernel
theorem dX3_readHouse_36 : decode cX3_readHouse 36 = .ok (.invokevirtual 98, 3) := by decide +kernel
theorem dX3_readHouse_39 : decode cX3_readHouse 39 = .ok (.ifCond .ne 4, 3) := by decide +kernel
theorem dX3_readHouse_42 : decode cX3_readHouse 42 = .ok (.return_, 1) := by decide +kernel
theorem dX3_readHouse_43 : decode cX3_readHouse 43 = .ok (.aload_n 0, 1) := by decide +kernel
theorem dX3_readHouse_44 : decode cX3_readHouse 44 = .ok (.getfield 21, 3) := by decide +kernel
theorem dX3_readHouse_47 : decode cX3_readHouse 47 = .ok (.getfield 95, 3) := by decide +kernel
theorem dX3_readHouse_50 : decode cX3_readHouse 50 = .ok (.iload_n 1, 1) := by decide +kernel
theorem dX3_readHouse_51 : decode cX3_readHouse 51 = .ok (.aload_n 0, 1) := by decide +kernel
theorem dX3_readHouse_52 : decode cX3_readHouse 52 = .ok (.getfield 12, 3) := by decide +kernel
theorem dX3_readHouse_55 : decode cX3_readHouse 55 = .ok (.getfield 102, 3) := by decide +kernel
theorem dX3_readHouse_58 : decode cX3_readHouse 58 = .ok (.iastore, 1) := by decide +kernel
theorem dX3_readHouse_59 : decode cX3_readHouse 59 = .ok (.aload_n 0, 1) := by decide +kernel
theorem dX3_readHouse_60 : decode cX3_readHouse 60 = .ok (.getfield 12, 3) := by decide +kernel
theorem dX3_readHouse_63 : decode cX3_readHouse 63 = .ok (.invokevirtual 83, 3) := by decide +kernel
theorem dX3_readHouse_66 : decode cX3_readHouse 66 = .ok (.aload_n 0, 1) := by decide +kernel
theorem dX3_readHouse_67 : decode cX3_readHouse 67 = .ok (.getfield 21, 3) := by decide +kernel
theorem dX3_readHouse_70 : decode cX3_readHouse 70 = .ok (.getfield 105, 3) := by decide +kernel
theorem dX3_readHouse_73 : decode cX3_readHouse 73 = .ok (.iload_n 1, 1) := by decide +kernel
theorem dX3_readHouse_74 : decode cX3_readHouse 74 = .ok (.aload_n 0, 1) := by decide +kernel
theorem dX3_readHouse_75 : decode cX3_readHouse 75 = .ok (.iconst 0, 1) := by decide +kernel
theorem dX3_readHouse_76 : decode cX3_readHouse 76 = .ok (.bipush 99, 2) := by decide +kernel
theorem dX3_readHouse_78 : decode cX3_readHouse 78 = .ok (.invokevirtual 108, 3) := by decide +kernel
theorem dX3_readHouse_81 : decode cX3_readHouse 81 = .ok (.iastore, 1) := by decide +kernel
theorem dX3_readHouse_82 : decode cX3_readHouse 82 = .ok (.aload_n 0, 1) := by decide +kernel
theorem dX3_readHouse_83 : decode cX3_readHouse 83 = .ok (.getfield 21, 3) := by decide +kernel
theorem dX3_readHouse_86 : decode cX3_readHouse 86 = .ok (.dup, 1) := by decide +kernel
theorem dX3_readHouse_87 : decode cX3_readHouse 87 = .ok (.getfield 92, 3) := by decide +kernel
theorem dX3_readHouse_90 : decode cX3_readHouse 90 = .ok (.iconst 1, 1) := by decide +kernel
theorem dX3_readHouse_91 : decode cX3_readHouse 91 = .ok (.iadd, 1) := by decide +kernel
theorem dX3_readHouse_92 : decode cX3_readHouse 92 = .ok (.putfield 92, 3) := by decide +kernel
theorem dX3_readHouse_95 : decode cX3_readHouse 95 = .ok (.return_, 1) := by decide +kernel
theorem dX3_readMan_0 : decode cX3_readMan 0 = .ok (.aload_n 0, 1) := by decide +kernel
theorem dX3_readMan_1 : decode cX3_readMan 1 = .ok (.getfield 21, 3) := by decide +kernel
theorem dX3_readMan_4 : decode cX3_readMan 4 = .ok (.getfield 112, 3) := by decide +kernel
theorem dX3_readMan_7 : decode cX3_readMan 7 = .ok (.istore_n 1, 1) := by decide +kernel
theorem dX3_readMan_8 : decode cX3_readMan 8 = .ok (.iload_n 1, 1) := by decide +kernel
theorem dX3_readMan_9 : decode cX3_readMan 9 = .ok (.bipush 8, 2) := by decide +kernel
theorem dX3_readMan_11 : decode cX3_readMan 11 = .ok (.if_icmp .lt 9, 3) := by decide +kernel
theorem dX3_readMan_14 : decode cX3_readMan 14 = .ok (.aload_n 0, 1) := by decide +kernel
theorem dX3_readMan_15 : decode cX3_readMan 15 = .ok (.iconst 2, 1) := by decide +kernel
theorem dX3_readMan_16 : decode cX3_readMan 16 = .ok (.invokevirtual 77, 3) := by decide +kernel
theorem dX3_readMan_19 : decode cX3_readMan 19 = .ok (.return_, 1) := by decide +kernel
theorem dX3_readMan_20 : decode cX3_readMan 20 = .ok (.aload_n 0, 1) := by decide +kernel
theorem dX3_readMan_21 : decode cX3_readMan 21 = .ok (.getfield 12, 3) := by decide +kernel
theorem dX3_readMan_24 : decode cX3_readMan 24 = .ok (.invokevirtual 83, 3) := by decide +kernel
theorem dX3_readMan_27 : decode cX3_readMan 27 = .ok (.aload_n 0, 1) := by decide +kernel
theorem dX3_readMan_28 : decode cX3_readMan 28 = .ok (.aload_n 0, 1) := by decide +kernel
theorem dX3_readMan_29 : decode cX3_readMan 29 = .ok (.getfield 21, 3) := by decide +kernel
theorem dX3_readMan_32 : decode cX3_readMan 32 = .ok (.getfield 115, 3) := by decide +kernel
theorem dX3_readMan_35 : decode cX3_readMan 35 = .ok (.iload_n 1, 1) := by decide +kernel
theorem dX3_readMan_36 : decode cX3_readMan 36 = .ok (.invokevirtual 98, 3) := by decide +kernel
theorem dX3_readMan_39 : decode cX3_readMan 39 = .ok (.ifCond .ne 4, 3) := by decide +kernel
theorem dX3_readMan_42 : decode cX3_readMan 42 = .ok (.return_, 1) := by decide +kernel
theorem dX3_readMan_43 : decode cX3_readMan 43 = .ok (.aload_n 0, 1) := by decide +kernel
theorem dX3_readMan_44 : decode cX3_readMan 44 = .ok (.getfield 21, 3) := by decide +kernel
theorem dX3_readMan_47 : decode cX3_readMan 47 = .ok (.getfield 115, 3) := by decide +kernel
theorem dX3_readMan_50 : decode cX3_readMan 50 = .ok (.iload_n 1, 1) := by decide +kernel
theorem dX3_readMan_51 : decode cX3_readMan 51 = .ok (.aload_n 0, 1) := by decide +kernel
theorem dX3_readMan_52 : decode cX3_readMan 52 = .ok (.getfield 12, 3) := by decide +kernel
theorem dX3_readMan_55 : decode cX3_readMan 55 = .ok (.getfield 102, 3) := by decide +kernel
theorem dX3_readMan_58 : decode cX3_readMan 58 = .ok (.iastore, 1) := by decide +kernel
theorem dX3_readMan_59 : decode cX3_readMan 59 = .ok (.aload_n 0, 1) := by decide +kernel
theorem dX3_readMan_60 : decode cX3_readMan 60 = .ok (.getfield 12, 3) := by decide +kernel
theorem dX3_readMan_63 : decode cX3_readMan 63 = .ok (.invokevirtual 83, 3) := by decide +kernel
theorem dX3_readMan_66 : decode cX3_readMan 66 = .ok (.aload_n 0, 1) := by decide +kernel
theorem dX3_readMan_67 : decode cX3_readMan 67 = .ok (.getfield 21, 3) := by decide +kernel
theorem dX3_readMan_70 : decode cX3_readMan 70 = .ok (.getfield 118, 3) := by decide +kernel
theorem dX3_readMan_73 : decode cX3_readMan 73 = .ok (.iload_n 1, 1) := by decide +kernel
theorem dX3_readMan_74 : decode cX3_readMan 74 = .ok (.aload_n 0, 1) := by decide +kernel
theorem dX3_readMan_75 : decode cX3_readMan 75 = .ok (.aload_n 0, 1) := by decide +kernel
theorem dX3_readMan_76 : decode cX3_readMan 76 = .ok (.getfield 21, 3) := by decide +kernel
theorem dX3_readMan_79 : decode cX3_readMan 79 = .ok (.getfield 95, 3) := by decide +kernel
theorem dX3_readMan_82 : decode cX3_readMan 82 = .ok (.aload_n 0, 1) := by decide +kernel
theorem dX3_readMan_83 : decode cX3_readMan 83 = .ok (.getfield 21, 3) := by decide +kernel
theorem dX3_readMan_86 : decode cX3_readMan 86 = .ok (.getfield 92, 3) := by decide +kernel
theorem dX3_readMan_89 : decode cX3_readMan 89 = .ok (.invokevirtual 121, 3) := by decide +kernel
theorem dX3_readMan_92 : decode cX3_readMan 92 = .ok (.iastore, 1) := by decide +kernel
theorem dX3_readMan_93 : decode cX3_readMan 93 = .ok (.aload_n 0, 1) := by decide +kernel
theorem dX3_readMan_94 : decode cX3_readMan 94 = .ok (.getfield 21, 3) := by decide +kernel
theorem dX3_readMan_97 : decode cX3_readMan 97 = .ok (.getfield 125, 3) := by decide +kernel
theorem dX3_readMan_100 : decode cX3_readMan 100 = .ok (.iload_n 1, 1) := by decide +kernel
theorem dX3_readMan_101 : decode cX3_readMan 101 = .ok (.aload_n 0, 1) := by decide +kernel
theorem dX3_readMan_102 : decode cX3_readMan 102 = .ok (.iconst 0, 1) := by decide +kernel
theorem dX3_readMan_103 : decode cX3_readMan 103 = .ok (.bipush 99, 2) := by decide +kernel
theorem dX3_readMan_105 : decode cX3_readMan 105 = .ok (.invokevirtual 108, 3) := by decide +kernel
theorem dX3_readMan_108 : decode cX3_readMan 108 = .ok (.iastore, 1) := by decide +kernel
theorem dX3_readMan_109 : decode cX3_readMan 109 = .ok (.aload_n 0, 1) := by decide +kernel
theorem dX3_readMan_110 : decode cX3_readMan 110 = .ok (.getfield 21, 3) := by decide +kernel
theorem dX3_readMan_113 : decode cX3_readMan 113 = .ok (.getfield 128, 3) := by decide +kernel
theorem dX3_readMan_116 : decode cX3_readMan 116 = .ok (.iload_n 1, 1) := by decide +kernel
theorem dX3_readMan_117 : decode cX3_readMan 117 = .ok (.aload_n 0, 1) := by decide +kernel
theorem dX3_readMan_118 : decode cX3_readMan 118 = .ok (.iconst 0, 1) := by decide +kernel
theorem dX3_readMan_119 : decode cX3_readMan 119 = .ok (.bipush 7, 2) := by decide +kernel
theorem dX3_readMan_121 : decode cX3_readMan 121 = .ok (.invokevirtual 108, 3) := by decide +kernel
theorem dX3_readMan_124 : decode cX3_readMan 124 = .ok (.iastore, 1) := by decide +kernel
theorem dX3_readMan_125 : decode cX3_readMan 125 = .ok (.aload_n 0, 1) := by decide +kernel
theorem dX3_readMan_126 : decode cX3_readMan 126 = .ok (.getfield 21, 3) := by decide +kernel
theorem dX3_readMan_129 : decode cX3_readMan 129 = .ok (.getfield 131, 3) := by decide +kernel
theorem dX3_readMan_132 : decode cX3_readMan 132 = .ok (.iload_n 1, 1) := by decide +kernel
theorem dX3_readMan_133 : decode cX3_readMan 133 = .ok (.aload_n 0, 1) := by decide +kernel
theorem dX3_readMan_134 : decode cX3_readMan 134 = .ok (.iconst 0, 1) := by decide +kernel
theorem dX3_readMan_135 : decode cX3_readMan 135 = .ok (.bipush 20, 2) := by decide +kernel
theorem dX3_readMan_137 : decode cX3_readMan 137 = .ok (.invokevirtual 108, 3) := by decide +kernel
theorem dX3_readMan_140 : decode cX3_readMan 140 = .ok (.iastore, 1) := by decide +kernel
theorem dX3_readMan_141 : decode cX3_readMan 141 = .ok (.aload_n 0, 1) := by decide +kernel
theorem dX3_readMan_142 : decode cX3_readMan 142 = .ok (.getfield 21, 3) := by decide +kernel
theorem dX3_readMan_145 : decode cX3_readMan 145 = .ok (.dup, 1) := by decide +kernel
theorem dX3_readMan_146 : decode cX3_readMan 146 = .ok (.getfield 112, 3) := by decide +kernel
theorem dX3_readMan_149 : decode cX3_readMan 149 = .ok (.iconst 1, 1) := by decide +kernel
theorem dX3_readMan_150 : decode cX3_readMan 150 = .ok (.iadd, 1) := by decide +kernel
theorem dX3_readMan_151 : decode cX3_readMan 151 = .ok (.putfield 112, 3) := by decide +kernel
theorem dX3_readMan_154 : decode cX3_readMan 154 = .ok (.return_, 1) := by decide +kernel
theorem dX3_readDeed_0 : decode cX3_readDeed 0 = .ok (.aload_n 0, 1) := by decide +kernel
theorem dX3_readDeed_1 : decode cX3_readDeed 1 = .ok (.getfield 21, 3) := by decide +kernel
theorem dX3_readDeed_4 : decode cX3_readDeed 4 = .ok (.getfield 134, 3) := by decide +kernel
theorem dX3_readDeed_7 : decode cX3_readDeed 7 = .ok (.bipush 14, 2) := by decide +kernel
theorem dX3_readDeed_9 : decode cX3_readDeed 9 = .ok (.if_icmp .lt 9, 3) := by decide +kernel
theorem dX3_readDeed_12 : decode cX3_readDeed 12 = .ok (.aload_n 0, 1) := by decide +kernel
theorem dX3_readDeed_13 : decode cX3_readDeed 13 = .ok (.iconst 2, 1) := by decide +kernel
theorem dX3_readDeed_14 : decode cX3_readDeed 14 = .ok (.invokevirtual 77, 3) := by decide +kernel
theorem dX3_readDeed_17 : decode cX3_readDeed 17 = .ok (.return_, 1) := by decide +kernel
theorem dX3_readDeed_18 : decode cX3_readDeed 18 = .ok (.aload_n 0, 1) := by decide +kernel
theorem dX3_readDeed_19 : decode cX3_readDeed 19 = .ok (.getfield 21, 3) := by decide +kernel
theorem dX3_readDeed_22 : decode cX3_readDeed 22 = .ok (.getfield 137, 3) := by decide +kernel
theorem dX3_readDeed_25 : decode cX3_readDeed 25 = .ok (.aload_n 0, 1) := by decide +kernel
theorem dX3_readDeed_26 : decode cX3_readDeed 26 = .ok (.getfield 21, 3) := by decide +kernel
theorem dX3_readDeed_29 : decode cX3_readDeed 29 = .ok (.getfield 134, 3) := by decide +kernel
theorem dX3_readDeed_32 : decode cX3_readDeed 32 = .ok (.aaload, 1) := by decide +kernel
theorem dX3_readDeed_33 : decode cX3_readDeed 33 = .ok (.astore_n 1, 1) := by decide +kernel
theorem dX3_readDeed_34 : decode cX3_readDeed 34 = .ok (.aload_n 1, 1) := by decide +kernel
theorem dX3_readDeed_35 : decode cX3_readDeed 35 = .ok (.aload_n 0, 1) := by decide +kernel
theorem dX3_readDeed_36 : decode cX3_readDeed 36 = .ok (.getfield 12, 3) := by decide +kernel
theorem dX3_readDeed_39 : decode cX3_readDeed 39 = .ok (.getfield 50, 3) := by decide +kernel
theorem dX3_readDeed_42 : decode cX3_readDeed 42 = .ok (.iconst 3, 1) := by decide +kernel
theorem dX3_readDeed_43 : decode cX3_readDeed 43 = .ok (.if_icmp .ne 7, 3) := by decide +kernel
theorem dX3_readDeed_46 : decode cX3_readDeed 46 = .ok (.iconst 1, 1) := by decide +kernel
theorem dX3_readDeed_47 : decode cX3_readDeed 47 = .ok (.goto 4, 3) := by decide +kernel
theorem dX3_readDeed_50 : decode cX3_readDeed 50 = .ok (.iconst 0, 1) := by decide +kernel
theorem dX3_readDeed_51 : decode cX3_readDeed 51 = .ok (.putfield 141, 3) := by decide +kernel
theorem dX3_readDeed_54 : decode cX3_readDeed 54 = .ok (.aload_n 0, 1) := by decide +kernel
theorem dX3_readDeed_55 : decode cX3_readDeed 55 = .ok (.getfield 12, 3) := by decide +kernel
theorem dX3_readDeed_58 : decode cX3_readDeed 58 = .ok (.invokevirtual 83, 3) := by decide +kernel
theorem dX3_readDeed_61 : decode cX3_readDeed 61 = .ok (.aload_n 1, 1) := by decide +kernel
theorem dX3_readDeed_62 : decode cX3_readDeed 62 = .ok (.aload_n 0, 1) := by decide +kernel
theorem dX3_readDeed_63 : decode cX3_readDeed 63 = .ok (.aload_n 0, 1) := by decide +kernel
theorem dX3_readDeed_64 : decode cX3_readDeed 64 = .ok (.getfield 21, 3) := by decide +kernel
theorem dX3_readDeed_67 : decode cX3_readDeed 67 = .ok (.getfield 95, 3) := by decide +kernel
theorem dX3_readDeed_70 : decode cX3_readDeed 70 = .ok (.aload_n 0, 1) := by decide +kernel
theorem dX3_readDeed_71 : decode cX3_readDeed 71 = .ok (.getfield 21, 3) := by decide +kernel
theorem dX3_readDeed_74 : decode cX3_readDeed 74 = .ok (.getfield 92, 3) := by decide +kernel
theorem dX3_readDeed_77 : decode cX3_readDeed 77 = .ok (.invokevirtual 121, 3) := by decide +kernel
theorem dX3_readDeed_80 : decode cX3_readDeed 80 = .ok (.putfield 146, 3) := by decide +kernel
theorem dX3_readDeed_83 : decode cX3_readDeed 83 = .ok (.aload_n 1, 1) := by decide +kernel
theorem dX3_readDeed_84 : decode cX3_readDeed 84 = .ok (.aload_n 0, 1) := by decide +kernel
theorem dX3_readDeed_85 : decode cX3_readDeed 85 = .ok (.iconst 0, 1) := by decide +kernel
theorem dX3_readDeed_86 : decode cX3_readDeed 86 = .ok (.bipush 7, 2) := by decide +kernel
theorem dX3_readDeed_88 : decode cX3_readDeed 88 = .ok (.invokevirtual 108, 3) := by decide +kernel
theorem dX3_readDeed_91 : decode cX3_readDeed 91 = .ok (.putfield 149, 3) := by decide +kernel
theorem dX3_readDeed_94 : decode cX3_readDeed 94 = .ok (.aload_n 1, 1) := by decide +kernel
theorem dX3_readDeed_95 : decode cX3_readDeed 95 = .ok (.aload_n 0, 1) := by decide +kernel
theorem dX3_readDeed_96 : decode cX3_readDeed 96 = .ok (.iconst 1, 1) := by decide +kernel
theorem dX3_readDeed_97 : decode cX3_readDeed 97 = .ok (.bipush 20, 2) := by decide +kernel
theorem dX3_readDeed_99 : decode cX3_readDeed 99 = .ok (.invokevirtual 108, 3) := by decide +kernel
theorem dX3_readDeed_102 : decode cX3_readDeed 102 = .ok (.putfield 152, 3) := by decide +kernel
theorem dX3_readDeed_105 : decode cX3_readDeed 105 = .ok (.aload_n 1, 1) := by decide +kernel
theorem dX3_readDeed_106 : decode cX3_readDeed 106 = .ok (.aload_n 0, 1) := by decide +kernel
theorem dX3_readDeed_107 : decode cX3_readDeed 107 = .ok (.iconst 0, 1) := by decide +kernel
theorem dX3_readDeed_108 : decode cX3_readDeed 108 = .ok (.bipush 99, 2) := by decide +kernel
theorem dX3_readDeed_110 : decode cX3_readDeed 110 = .ok (.invokevirtual 108, 3) := by decide +kernel
theorem dX3_readDeed_113 : decode cX3_readDeed 113 = .ok (.putfield 155, 3) := by decide +kernel
theorem dX3_readDeed_116 : decode cX3_readDeed 116 = .ok (.aload_n 0, 1) := by decide +kernel
theorem dX3_readDeed_117 : decode cX3_readDeed 117 = .ok (.getfield 21, 3) := by decide +kernel
theorem dX3_readDeed_120 : decode cX3_readDeed 120 = .ok (.dup, 1) := by decide +kernel
theorem dX3_readDeed_121 : decode cX3_readDeed 121 = .ok (.getfield 134, 3) := by decide +kernel
theorem dX3_readDeed_124 : decode cX3_readDeed 124 = .ok (.iconst 1, 1) := by decide +kernel
theorem dX3_readDeed_125 : decode cX3_readDeed 125 = .ok (.iadd, 1) := by decide +kernel
theorem dX3_readDeed_126 : decode cX3_readDeed 126 = .ok (.putfield 134, 3) := by decide +kernel
theorem dX3_readDeed_129 : decode cX3_readDeed 129 = .ok (.return_, 1) := by decide +kernel
theorem dX3_readWedding_0 : decode cX3_readWedding 0 = .ok (.aload_n 0, 1) := by decide +kernel
theorem dX3_readWedding_1 : decode cX3_readWedding 1 = .ok (.getfield 21, 3) := by decide +kernel
theorem dX3_readWedding_4 : decode cX3_readWedding 4 = .ok (.getfield 158, 3) := by decide +kernel
theorem dX3_readWedding_7 : decode cX3_readWedding 7 = .ok (.bipush 6, 2) := by decide +kernel
theorem dX3_readWedding_9 : decode cX3_readWedding 9 = .ok (.if_icmp .lt 9, 3) := by decide +kernel
theorem dX3_readWedding_12 : decode cX3_readWedding 12 = .ok (.aload_n 0, 1) := by decide +kernel
theorem dX3_readWedding_13 : decode cX3_readWedding 13 = .ok (.iconst 2, 1) := by decide +kernel
theorem dX3_readWedding_14 : decode cX3_readWedding 14 = .ok (.invokevirtual 77, 3) := by decide +kernel
theorem dX3_readWedding_17 : decode cX3_readWedding 17 = .ok (.return_, 1) := by decide +kernel
theorem dX3_readWedding_18 : decode cX3_readWedding 18 = .ok (.aload_n 0, 1) := by decide +kernel
theorem dX3_readWedding_19 : decode cX3_readWedding 19 = .ok (.getfield 21, 3) := by decide +kernel
theorem dX3_readWedding_22 : decode cX3_readWedding 22 = .ok (.getfield 161, 3) := by decide +kernel
theorem dX3_readWedding_25 : decode cX3_readWedding 25 = .ok (.aload_n 0, 1) := by decide +kernel
theorem dX3_readWedding_26 : decode cX3_readWedding 26 = .ok (.getfield 21, 3) := by decide +kernel
theorem dX3_readWedding_29 : decode cX3_readWedding 29 = .ok (.getfield 158, 3) := by decide +kernel
theorem dX3_readWedding_32 : decode cX3_readWedding 32 = .ok (.aaload, 1) := by decide +kernel
theorem dX3_readWedding_33 : decode cX3_readWedding 33 = .ok (.astore_n 1, 1) := by decide +kernel
theorem dX3_readWedding_34 : decode cX3_readWedding 34 = .ok (.aload_n 0, 1) := by decide +kernel
theorem dX3_readWedding_35 : decode cX3_readWedding 35 = .ok (.getfield 12, 3) := by decide +kernel
theorem dX3_readWedding_38 : decode cX3_readWedding 38 = .ok (.invokevirtual 83, 3) := by decide +kernel
theorem dX3_readWedding_41 : decode cX3_readWedding 41 = .ok (.aload_n 0, 1) := by decide +kernel
theorem dX3_readWedding_42 : decode cX3_readWedding 42 = .ok (.getfield 12, 3) := by decide +kernel
theorem dX3_readWedding_45 : decode cX3_readWedding 45 = .ok (.getfield 102, 3) := by decide +kernel
theorem dX3_readWedding_48 : decode cX3_readWedding 48 = .ok (.istore_n 2, 1) := by decide +kernel
theorem dX3_readWedding_49 : decode cX3_readWedding 49 = .ok (.aload_n 1, 1) := by decide +kernel
theorem dX3_readWedding_50 : decode cX3_readWedding 50 = .ok (.aload_n 0, 1) := by decide +kernel
theorem dX3_readWedding_51 : decode cX3_readWedding 51 = .ok (.aload_n 0, 1) := by decide +kernel
theorem dX3_readWedding_52 : decode cX3_readWedding 52 = .ok (.getfield 21, 3) := by decide +kernel
theorem dX3_readWedding_55 : decode cX3_readWedding 55 = .ok (.getfield 115, 3) := by decide +kernel
theorem dX3_readWedding_58 : decode cX3_readWedding 58 = .ok (.aload_n 0, 1) := by decide +kernel
theorem dX3_readWedding_59 : decode cX3_readWedding 59 = .ok (.getfield 21, 3) := by decide +kernel
theorem dX3_readWedding_62 : decode cX3_readWedding 62 = .ok (.getfield 112, 3) := by decide +kernel
theorem dX3_readWedding_65 : decode cX3_readWedding 65 = .ok (.invokevirtual 121, 3) := by decide +kernel
theorem dX3_readWedding_68 : decode cX3_readWedding 68 = .ok (.putfield 165, 3) := by decide +kernel
theorem dX3_readWedding_71 : decode cX3_readWedding 71 = .ok (.aload_n 0, 1) := by decide +kernel
theorem dX3_readWedding_72 : decode cX3_readWedding 72 = .ok (.getfield 43, 3) := by decide +kernel
theorem dX3_readWedding_75 : decode cX3_readWedding 75 = .ok (.ifCond .ne 32, 3) := by decide +kernel
theorem dX3_readWedding_78 : decode cX3_readWedding 78 = .ok (.aload_n 0, 1) := by decide +kernel
theorem dX3_readWedding_79 : decode cX3_readWedding 79 = .ok (.getfield 12, 3) := by decide +kernel
theorem dX3_readWedding_82 : decode cX3_readWedding 82 = .ok (.getfield 50, 3) := by decide +kernel
theorem dX3_readWedding_85 : decode cX3_readWedding 85 = .ok (.bipush 22, 2) := by decide +kernel
theorem dX3_readWedding_87 : decode cX3_readWedding 87 = .ok (.if_icmp .ne 20, 3) := by decide +kernel
theorem dX3_readWedding_90 : decode cX3_readWedding 90 = .ok (.aload_n 0, 1) := by decide +kernel
theorem dX3_readWedding_91 : decode cX3_readWedding 91 = .ok (.getfield 12, 3) := by decide +kernel
theorem dX3_readWedding_94 : decode cX3_readWedding 94 = .ok (.getfield 102, 3) := by decide +kernel
theorem dX3_readWedding_97 : decode cX3_readWedding 97 = .ok (.iload_n 2, 1) := by decide +kernel
theorem dX3_readWedding_98 : decode cX3_readWedding 98 = .ok (.if_icmp .ne 9, 3) := by decide +kernel
theorem dX3_readWedding_101 : decode cX3_readWedding 101 = .ok (.aload_n 0, 1) := by decide +kernel
theorem dX3_readWedding_102 : decode cX3_readWedding 102 = .ok (.iconst 5, 1) := by decide +kernel
theorem dX3_readWedding_103 : decode cX3_readWedding 103 = .ok (.invokevirtual 77, 3) := by decide +kernel
theorem dX3_readWedding_106 : decode cX3_readWedding 106 = .ok (.return_, 1) := by decide +kernel
theorem dX3_readWedding_107 : decode cX3_readWedding 107 = .ok (.aload_n 1, 1) := by decide +kernel
theorem dX3_readWedding_108 : decode cX3_readWedding 108 = .ok (.aload_n 0, 1) := by decide +kernel
theorem dX3_readWedding_109 : decode cX3_readWedding 109 = .ok (.aload_n 0, 1) := by decide +kernel
theorem dX3_readWedding_110 : decode cX3_readWedding 110 = .ok (.getfield 21, 3) := by decide +kernel
theorem dX3_readWedding_113 : decode cX3_readWedding 113 = .ok (.getfield 115, 3) := by decide +kernel
theorem dX3_readWedding_116 : decode cX3_readWedding 116 = .ok (.aload_n 0, 1) := by decide +kernel
theorem dX3_readWedding_117 : decode cX3_readWedding 117 = .ok (.getfield 21, 3) := by decide +kernel
theorem dX3_readWedding_120 : decode cX3_readWedding 120 = .ok (.getfield 112, 3) := by decide +kernel
theorem dX3_readWedding_123 : decode cX3_readWedding 123 = .ok (.invokevirtual 121, 3) := by decide +kernel
theorem dX3_readWedding_126 : decode cX3_readWedding 126 = .ok (.putfield 170, 3) := by decide +kernel
theorem dX3_readWedding_129 : decode cX3_readWedding 129 = .ok (.aload_n 1, 1) := by decide +kernel
theorem dX3_readWedding_130 : decode cX3_readWedding 130 = .ok (.aload_n 0, 1) := by decide +kernel
theorem dX3_readWedding_131 : decode cX3_readWedding 131 = .ok (.iconst 0, 1) := by decide +kernel
theorem dX3_readWedding_132 : decode cX3_readWedding 132 = .ok (.bipush 99, 2) := by decide +kernel
theorem dX3_readWedding_134 : decode cX3_readWedding 134 = .ok (.invokevirtual 108, 3) := by decide +kernel
theorem dX3_readWedding_137 : decode cX3_readWedding 137 = .ok (.putfield 173, 3) := by decide +kernel
theorem dX3_readWedding_140 : decode cX3_readWedding 140 = .ok (.aload_n 0, 1) := by decide +kernel
theorem dX3_readWedding_141 : decode cX3_readWedding 141 = .ok (.getfield 21, 3) := by decide +kernel
theorem dX3_readWedding_144 : decode cX3_readWedding 144 = .ok (.dup, 1) := by decide +kernel
theorem dX3_readWedding_145 : decode cX3_readWedding 145 = .ok (.getfield 158, 3) := by decide +kernel
theorem dX3_readWedding_148 : decode cX3_readWedding 148 = .ok (.iconst 1, 1) := by decide +kernel
theorem dX3_readWedding_149 : decode cX3_readWedding 149 = .ok (.iadd, 1) := by decide +kernel
theorem dX3_readWedding_150 : decode cX3_readWedding 150 = .ok (.putfield 158, 3) := by decide +kernel
theorem dX3_readWedding_153 : decode cX3_readWedding 153 = .ok (.return_, 1) := by decide +kernel
theorem dX3_readStrip_0 : decode cX3_readStrip 0 = .ok (.aload_n 0, 1) := by decide +kernel
theorem dX3_readStrip_1 : decode cX3_readStrip 1 = .ok (.getfield 21, 3) := by decide +kernel
theorem dX3_readStrip_4 : decode cX3_readStrip 4 = .ok (.getfield 174, 3) := by decide +kernel
theorem dX3_readStrip_7 : decode cX3_readStrip 7 = .ok (.iconst 4, 1) := by decide +kernel
theorem dX3_readStrip_8 : decode cX3_readStrip 8 = .ok (.if_icmp .lt 9, 3) := by decide +kernel
theorem dX3_readStrip_11 : decode cX3_readStrip 11 = .ok (.aload_n 0, 1) := by decide +kernel
theorem dX3_readStrip_12 : decode cX3_readStrip 12 = .ok (.iconst 2, 1) := by decide +kernel
theorem dX3_readStrip_13 : decode cX3_readStrip 13 = .ok (.invokevirtual 77, 3) := by decide +kernel
theorem dX3_readStrip_16 : decode cX3_readStrip 16 = .ok (.return_, 1) := by decide +kernel
theorem dX3_readStrip_17 : decode cX3_readStrip 17 = .ok (.aload_n 0, 1) := by decide +kernel
theorem dX3_readStrip_18 : decode cX3_readStrip 18 = .ok (.getfield 12, 3) := by decide +kernel
theorem dX3_readStrip_21 : decode cX3_readStrip 21 = .ok (.invokevirtual 83, 3) := by decide +kernel
theorem dX3_readStrip_24 : decode cX3_readStrip 24 = .ok (.aload_n 0, 1) := by decide +kernel
theorem dX3_readStrip_25 : decode cX3_readStrip 25 = .ok (.getfield 21, 3) := by decide +kernel
theorem dX3_readStrip_28 : decode cX3_readStrip 28 = .ok (.getfield 177, 3) := by decide +kernel
theorem dX3_readStrip_31 : decode cX3_readStrip 31 = .ok (.aload_n 0, 1) := by decide +kernel
theorem dX3_readStrip_32 : decode cX3_readStrip 32 = .ok (.getfield 21, 3) := by decide +kernel
theorem dX3_readStrip_35 : decode cX3_readStrip 35 = .ok (.getfield 174, 3) := by decide +kernel
theorem dX3_readStrip_38 : decode cX3_readStrip 38 = .ok (.aload_n 0, 1) := by decide +kernel
theorem dX3_readStrip_39 : decode cX3_readStrip 39 = .ok (.iconst 0, 1) := by decide +kernel
theorem dX3_readStrip_40 : decode cX3_readStrip 40 = .ok (.bipush 99, 2) := by decide +kernel
theorem dX3_readStrip_42 : decode cX3_readStrip 42 = .ok (.invokevirtual 108, 3) := by decide +kernel
theorem dX3_readStrip_45 : decode cX3_readStrip 45 = .ok (.iastore, 1) := by decide +kernel
theorem dX3_readStrip_46 : decode cX3_readStrip 46 = .ok (.aload_n 0, 1) := by decide +kernel
theorem dX3_readStrip_47 : decode cX3_readStrip 47 = .ok (.getfield 21, 3) := by decide +kernel
theorem dX3_readStrip_50 : decode cX3_readStrip 50 = .ok (.dup, 1) := by decide +kernel
theorem dX3_readStrip_51 : decode cX3_readStrip 51 = .ok (.getfield 174, 3) := by decide +kernel
theorem dX3_readStrip_54 : decode cX3_readStrip 54 = .ok (.iconst 1, 1) := by decide +kernel
theorem dX3_readStrip_55 : decode cX3_readStrip 55 = .ok (.iadd, 1) := by decide +kernel
theorem dX3_readStrip_56 : decode cX3_readStrip 56 = .ok (.putfield 174, 3) := by decide +kernel
theorem dX3_readStrip_59 : decode cX3_readStrip 59 = .ok (.return_, 1) := by decide +kernel
theorem dX3_readDamp_0 : decode cX3_readDamp 0 = .ok (.aload_n 0, 1) := by decide +kernel
theorem dX3_readDamp_1 : decode cX3_readDamp 1 = .ok (.getfield 36, 3) := by decide +kernel
theorem dX3_readDamp_4 : decode cX3_readDamp 4 = .ok (.ifCond .eq 9, 3) := by decide +kernel
theorem dX3_readDamp_7 : decode cX3_readDamp 7 = .ok (.aload_n 0, 1) := by decide +kernel
theorem dX3_readDamp_8 : decode cX3_readDamp 8 = .ok (.iconst 3, 1) := by decide +kernel
theorem dX3_readDamp_9 : decode cX3_readDamp 9 = .ok (.invokevirtual 77, 3) := by decide +kernel
theorem dX3_readDamp_12 : decode cX3_readDamp 12 = .ok (.return_, 1) := by decide +kernel
theorem dX3_readDamp_13 : decode cX3_readDamp 13 = .ok (.aload_n 0, 1) := by decide +kernel
theorem dX3_readDamp_14 : decode cX3_readDamp 14 = .ok (.iconst 1, 1) := by decide +kernel
theorem dX3_readDamp_15 : decode cX3_readDamp 15 = .ok (.putfield 36, 3) := by decide +kernel
theorem dX3_readDamp_18 : decode cX3_readDamp 18 = .ok (.aload_n 0, 1) := by decide +kernel
theorem dX3_readDamp_19 : decode cX3_readDamp 19 = .ok (.getfield 12, 3) := by decide +kernel
theorem dX3_readDamp_22 : decode cX3_readDamp 22 = .ok (.invokevirtual 83, 3) := by decide +kernel
theorem dX3_readDamp_25 : decode cX3_readDamp 25 = .ok (.aload_n 0, 1) := by decide +kernel
theorem dX3_readDamp_26 : decode cX3_readDamp 26 = .ok (.getfield 21, 3) := by decide +kernel
theorem dX3_readDamp_29 : decode cX3_readDamp 29 = .ok (.aload_n 0, 1) := by decide +kernel
theorem dX3_readDamp_30 : decode cX3_readDamp 30 = .ok (.iconst 0, 1) := by decide +kernel
theorem dX3_readDamp_31 : decode cX3_readDamp 31 = .ok (.bipush 100, 2) := by decide +kernel
theorem dX3_readDamp_33 : decode cX3_readDamp 33 = .ok (.invokevirtual 108, 3) := by decide +kernel
theorem dX3_readDamp_36 : decode cX3_readDamp 36 = .ok (.putfield 180, 3) := by decide +kernel
theorem dX3_readDamp_39 : decode cX3_readDamp 39 = .ok (.return_, 1) := by decide +kernel
theorem dX3_readSeed_0 : decode cX3_readSeed 0 = .ok (.aload_n 0, 1) := by decide +kernel
theorem dX3_readSeed_1 : decode cX3_readSeed 1 = .ok (.getfield 40, 3) := by decide +kernel
theorem dX3_readSeed_4 : decode cX3_readSeed 4 = .ok (.ifCond .eq 9, 3) := by decide +kernel
theorem dX3_readSeed_7 : decode cX3_readSeed 7 = .ok (.aload_n 0, 1) := by decide +kernel
theorem dX3_readSeed_8 : decode cX3_readSeed 8 = .ok (.iconst 3, 1) := by decide +kernel
theorem dX3_readSeed_9 : decode cX3_readSeed 9 = .ok (.invokevirtual 77, 3) := by decide +kernel
theorem dX3_readSeed_12 : decode cX3_readSeed 12 = .ok (.return_, 1) := by decide +kernel
theorem dX3_readSeed_13 : decode cX3_readSeed 13 = .ok (.aload_n 0, 1) := by decide +kernel
theorem dX3_readSeed_14 : decode cX3_readSeed 14 = .ok (.iconst 1, 1) := by decide +kernel
theorem dX3_readSeed_15 : decode cX3_readSeed 15 = .ok (.putfield 40, 3) := by decide +kernel
theorem dX3_readSeed_18 : decode cX3_readSeed 18 = .ok (.aload_n 0, 1) := by decide +kernel
theorem dX3_readSeed_19 : decode cX3_readSeed 19 = .ok (.getfield 12, 3) := by decide +kernel
theorem dX3_readSeed_22 : decode cX3_readSeed 22 = .ok (.invokevirtual 83, 3) := by decide +kernel
theorem dX3_readSeed_25 : decode cX3_readSeed 25 = .ok (.aload_n 0, 1) := by decide +kernel
theorem dX3_readSeed_26 : decode cX3_readSeed 26 = .ok (.getfield 21, 3) := by decide +kernel
theorem dX3_readSeed_29 : decode cX3_readSeed 29 = .ok (.aload_n 0, 1) := by decide +kernel
theorem dX3_readSeed_30 : decode cX3_readSeed 30 = .ok (.iconst 0, 1) := by decide +kernel
theorem dX3_readSeed_31 : decode cX3_readSeed 31 = .ok (.ldc 183, 2) := by decide +kernel
theorem dX3_readSeed_33 : decode cX3_readSeed 33 = .ok (.invokevirtual 108, 3) := by decide +kernel
theorem dX3_readSeed_36 : decode cX3_readSeed 36 = .ok (.putfield 184, 3) := by decide +kernel
theorem dX3_readSeed_39 : decode cX3_readSeed 39 = .ok (.return_, 1) := by decide +kernel
theorem dX3_isNewName_0 : decode cX3_isNewName 0 = .ok (.aload_n 0, 1) := by decide +kernel
theorem dX3_isNewName_1 : decode cX3_isNewName 1 = .ok (.getfield 12, 3) := by decide +kernel
theorem dX3_isNewName_4 : decode cX3_isNewName 4 = .ok (.getfield 50, 3) := by decide +kernel
theorem dX3_isNewName_7 : decode cX3_isNewName 7 = .ok (.bipush 22, 2) := by decide +kernel
theorem dX3_isNewName_9 : decode cX3_isNewName 9 = .ok (.if_icmp .eq 11, 3) := by decide +kernel
theorem dX3_isNewName_12 : decode cX3_isNewName 12 = .ok (.aload_n 0, 1) := by decide +kernel
theorem dX3_isNewName_13 : decode cX3_isNewName 13 = .ok (.iconst 1, 1) := by decide +kernel
theorem dX3_isNewName_14 : decode cX3_isNewName 14 = .ok (.invokevirtual 77, 3) := by decide +kernel
theorem dX3_isNewName_17 : decode cX3_isNewName 17 = .ok (.goto 24, 3) := by decide +kernel
theorem dX3_isNewName_20 : decode cX3_isNewName 20 = .ok (.aload_n 1, 1) := by decide +kernel
theorem dX3_isNewName_21 : decode cX3_isNewName 21 = .ok (.iload_n 2, 1) := by decide +kernel
theorem dX3_isNewName_22 : decode cX3_isNewName 22 = .ok (.aload_n 0, 1) := by decide +kernel
theorem dX3_isNewName_23 : decode cX3_isNewName 23 = .ok (.getfield 12, 3) := by decide +kernel
theorem dX3_isNewName_26 : decode cX3_isNewName 26 = .ok (.getfield 102, 3) := by decide +kernel
theorem dX3_isNewName_29 : decode cX3_isNewName 29 = .ok (.invokestatic 187, 3) := by decide +kernel
theorem dX3_isNewName_32 : decode cX3_isNewName 32 = .ok (.iconst (-1), 1) := by decide +kernel
theorem dX3_isNewName_33 : decode cX3_isNewName 33 = .ok (.if_icmp .eq 8, 3) := by decide +kernel
theorem dX3_isNewName_36 : decode cX3_isNewName 36 = .ok (.aload_n 0, 1) := by decide +kernel
theorem dX3_isNewName_37 : decode cX3_isNewName 37 = .ok (.iconst 3, 1) := by decide +kernel
theorem dX3_isNewName_38 : decode cX3_isNewName 38 = .ok (.invokevirtual 77, 3) := by decide +kernel
theorem dX3_isNewName_41 : decode cX3_isNewName 41 = .ok (.aload_n 0, 1) := by decide +kernel
theorem dX3_isNewName_42 : decode cX3_isNewName 42 = .ok (.getfield 43, 3) := by decide +kernel
theorem dX3_isNewName_45 : decode cX3_isNewName 45 = .ok (.ifCond .ne 7, 3) := by decide +kernel
theorem dX3_isNewName_48 : decode cX3_isNewName 48 = .ok (.iconst 1, 1) := by decide +kernel
theorem dX3_isNewName_49 : decode cX3_isNewName 49 = .ok (.goto 4, 3) := by decide +kernel
theorem dX3_isNewName_52 : decode cX3_isNewName 52 = .ok (.iconst 0, 1) := by decide +kernel
theorem dX3_isNewName_53 : decode cX3_isNewName 53 = .ok (.ireturn, 1) := by decide +kernel
theorem dX3_takeToldName_0 : decode cX3_takeToldName 0 = .ok (.aload_n 0, 1) := by decide +kernel
theorem dX3_takeToldName_1 : decode cX3_takeToldName 1 = .ok (.getfield 43, 3) := by decide +kernel
theorem dX3_takeToldName_4 : decode cX3_takeToldName 4 = .ok (.ifCond .eq 5, 3) := by decide +kernel
theorem dX3_takeToldName_7 : decode cX3_takeToldName 7 = .ok (.iconst 0, 1) := by decide +kernel
theorem dX3_takeToldName_8 : decode cX3_takeToldName 8 = .ok (.ireturn, 1) := by decide +kernel
theorem dX3_takeToldName_9 : decode cX3_takeToldName 9 = .ok (.aload_n 1, 1) := by decide +kernel
theorem dX3_takeToldName_10 : decode cX3_takeToldName 10 = .ok (.iload_n 2, 1) := by decide +kernel
theorem dX3_takeToldName_11 : decode cX3_takeToldName 11 = .ok (.aload_n 0, 1) := by decide +kernel
theorem dX3_takeToldName_12 : decode cX3_takeToldName 12 = .ok (.getfield 12, 3) := by decide +kernel
theorem dX3_takeToldName_15 : decode cX3_takeToldName 15 = .ok (.getfield 102, 3) := by decide +kernel
theorem dX3_takeToldName_18 : decode cX3_takeToldName 18 = .ok (.invokestatic 187, 3) := by decide +kernel
theorem dX3_takeToldName_21 : decode cX3_takeToldName 21 = .ok (.istore_n 3, 1) := by decide +kernel
theorem dX3_takeToldName_22 : decode cX3_takeToldName 22 = .ok (.aload_n 0, 1) := by decide +kernel
theorem dX3_takeToldName_23 : decode cX3_takeToldName 23 = .ok (.getfield 12, 3) := by decide +kernel
theorem dX3_takeToldName_26 : decode cX3_takeToldName 26 = .ok (.getfield 50, 3) := by decide +kernel
theorem dX3_takeToldName_29 : decode cX3_takeToldName 29 = .ok (.bipush 22, 2) := by decide +kernel
theorem dX3_takeToldName_31 : decode cX3_takeToldName 31 = .ok (.if_icmp .eq 11, 3) := by decide +kernel
theorem dX3_takeToldName_34 : decode cX3_takeToldName 34 = .ok (.aload_n 0, 1) := by decide +kernel
theorem dX3_takeToldName_35 : decode cX3_takeToldName 35 = .ok (.iconst 1, 1) := by decide +kernel
theorem dX3_takeToldName_36 : decode cX3_takeToldName 36 = .ok (.invokevirtual 77, 3) := by decide +kernel
theorem dX3_takeToldName_39 : decode cX3_takeToldName 39 = .ok (.goto 25, 3) := by decide +kernel
theorem dX3_takeToldName_42 : decode cX3_takeToldName 42 = .ok (.iload_n 3, 1) := by decide +kernel
theorem dX3_takeToldName_43 : decode cX3_takeToldName 43 = .ok (.iconst (-1), 1) := by decide +kernel
theorem dX3_takeToldName_44 : decode cX3_takeToldName 44 = .ok (.if_icmp .ne 11, 3) := by decide +kernel
theorem dX3_takeToldName_47 : decode cX3_takeToldName 47 = .ok (.aload_n 0, 1) := by decide +kernel
theorem dX3_takeToldName_48 : decode cX3_takeToldName 48 = .ok (.iconst 4, 1) := by decide +kernel
theorem dX3_takeToldName_49 : decode cX3_takeToldName 49 = .ok (.invokevirtual 77, 3) := by decide +kernel
theorem dX3_takeToldName_52 : decode cX3_takeToldName 52 = .ok (.goto 12, 3) := by decide +kernel
theorem dX3_takeToldName_55 : decode cX3_takeToldName 55 = .ok (.aload_n 0, 1) := by decide +kernel
theorem dX3_takeToldName_56 : decode cX3_takeToldName 56 = .ok (.getfield 12, 3) := by decide +kernel
theorem dX3_takeToldName_59 : decode cX3_takeToldName 59 = .ok (.invokevirtual 83, 3) := by decide +kernel
theorem dX3_takeToldName_62 : decode cX3_takeToldName 62 = .ok (.iload_n 3, 1) := by decide +kernel
theorem dX3_takeToldName_63 : decode cX3_takeToldName 63 = .ok (.ireturn, 1) := by decide +kernel
theorem dX3_takeToldName_64 : decode cX3_takeToldName 64 = .ok (.iconst 0, 1) := by decide +kernel
theorem dX3_takeToldName_65 : decode cX3_takeToldName 65 = .ok (.ireturn, 1) := by decide +kernel
theorem dX3_takeNumber_0 : decode cX3_takeNumber 0 = .ok (.aload_n 0, 1) := by decide +kernel
theorem dX3_takeNumber_1 : decode cX3_takeNumber 1 = .ok (.getfield 43, 3) := by decide +kernel
theorem dX3_takeNumber_4 : decode cX3_takeNumber 4 = .ok (.ifCond .eq 5, 3) := by decide +kernel
theorem dX3_takeNumber_7 : decode cX3_takeNumber 7 = .ok (.iconst 0, 1) := by decide +kernel
theorem dX3_takeNumber_8 : decode cX3_takeNumber 8 = .ok (.ireturn, 1) := by decide +kernel
theorem dX3_takeNumber_9 : decode cX3_takeNumber 9 = .ok (.aload_n 0, 1) := by decide +kernel
theorem dX3_takeNumber_10 : decode cX3_takeNumber 10 = .ok (.getfield 12, 3) := by decide +kernel
theorem dX3_takeNumber_13 : decode cX3_takeNumber 13 = .ok (.getfield 102, 3) := by decide +kernel
theorem dX3_takeNumber_16 : decode cX3_takeNumber 16 = .ok (.istore_n 3, 1) := by decide +kernel
theorem dX3_takeNumber_17 : decode cX3_takeNumber 17 = .ok (.aload_n 0, 1) := by decide +kernel
theorem dX3_takeNumber_18 : decode cX3_takeNumber 18 = .ok (.getfield 12, 3) := by decide +kernel
theorem dX3_takeNumber_21 : decode cX3_takeNumber 21 = .ok (.getfield 50, 3) := by decide +kernel
theorem dX3_takeNumber_24 : decode cX3_takeNumber 24 = .ok (.bipush 23, 2) := by decide +kernel
theorem dX3_takeNumber_26 : decode cX3_takeNumber 26 = .ok (.if_icmp .eq 11, 3) := by decide +kernel
theorem dX3_takeNumber_29 : decode cX3_takeNumber 29 = .ok (.aload_n 0, 1) := by decide +kernel
theorem dX3_takeNumber_30 : decode cX3_takeNumber 30 = .ok (.iconst 1, 1) := by decide +kernel
theorem dX3_takeNumber_31 : decode cX3_takeNumber 31 = .ok (.invokevirtual 77, 3) := by decide +kernel
theorem dX3_takeNumber_34 : decode cX3_takeNumber 34 = .ok (.goto 30, 3) := by decide +kernel
theorem dX3_takeNumber_37 : decode cX3_takeNumber 37 = .ok (.iload_n 3, 1) := by decide +kernel
theorem dX3_takeNumber_38 : decode cX3_takeNumber 38 = .ok (.iload_n 1, 1) := by decide +kernel
theorem dX3_takeNumber_39 : decode cX3_takeNumber 39 = .ok (.if_icmp .lt 8, 3) := by decide +kernel
theorem dX3_takeNumber_42 : decode cX3_takeNumber 42 = .ok (.iload_n 3, 1) := by decide +kernel
theorem dX3_takeNumber_43 : decode cX3_takeNumber 43 = .ok (.iload_n 2, 1) := by decide +kernel
theorem dX3_takeNumber_44 : decode cX3_takeNumber 44 = .ok (.if_icmp .le 11, 3) := by decide +kernel
theorem dX3_takeNumber_47 : decode cX3_takeNumber 47 = .ok (.aload_n 0, 1) := by decide +kernel
theorem dX3_takeNumber_48 : decode cX3_takeNumber 48 = .ok (.iconst 2, 1) := by decide +kernel
theorem dX3_takeNumber_49 : decode cX3_takeNumber 49 = .ok (.invokevirtual 77, 3) := by decide +kernel
theorem dX3_takeNumber_52 : decode cX3_takeNumber 52 = .ok (.goto 12, 3) := by decide +kernel
theorem dX3_takeNumber_55 : decode cX3_takeNumber 55 = .ok (.aload_n 0, 1) := by decide +kernel
theorem dX3_takeNumber_56 : decode cX3_takeNumber 56 = .ok (.getfield 12, 3) := by decide +kernel
theorem dX3_takeNumber_59 : decode cX3_takeNumber 59 = .ok (.invokevirtual 83, 3) := by decide +kernel
theorem dX3_takeNumber_62 : decode cX3_takeNumber 62 = .ok (.iload_n 3, 1) := by decide +kernel
theorem dX3_takeNumber_63 : decode cX3_takeNumber 63 = .ok (.ireturn, 1) := by decide +kernel
theorem dX3_takeNumber_64 : decode cX3_takeNumber 64 = .ok (.iconst 0, 1) := by decide +kernel
theorem dX3_takeNumber_65 : decode cX3_takeNumber 65 = .ok (.ireturn, 1) := by decide +kernel
theorem dX3_readLaw_0 : decode cX3_readLaw 0 = .ok (.aload_n 0, 1) := by decide +kernel
theorem dX3_readLaw_1 : decode cX3_readLaw 1 = .ok (.getfield 12, 3) := by decide +kernel
theorem dX3_readLaw_4 : decode cX3_readLaw 4 = .ok (.invokevirtual 83, 3) := by decide +kernel
theorem dX3_readLaw_7 : decode cX3_readLaw 7 = .ok (.aload_n 0, 1) := by decide +kernel
theorem dX3_readLaw_8 : decode cX3_readLaw 8 = .ok (.getfield 12, 3) := by decide +kernel
theorem dX3_readLaw_11 : decode cX3_readLaw 11 = .ok (.getfield 50, 3) := by decide +kernel
theorem dX3_readLaw_14 : decode cX3_readLaw 14 = .ok (.istore_n 1, 1) := by decide +kernel
theorem dX3_readLaw_15 : decode cX3_readLaw 15 = .ok (.iload_n 1, 1) := by decide +kernel
theorem dX3_readLaw_16 : decode cX3_readLaw 16 = .ok (.bipush 9, 2) := by decide +kernel
theorem dX3_readLaw_18 : decode cX3_readLaw 18 = .ok (.if_icmp .eq 21, 3) := by decide +kernel
theorem dX3_readLaw_21 : decode cX3_readLaw 21 = .ok (.iload_n 1, 1) := by decide +kernel
theorem dX3_readLaw_22 : decode cX3_readLaw 22 = .ok (.bipush 10, 2) := by decide +kernel
theorem dX3_readLaw_24 : decode cX3_readLaw 24 = .ok (.if_icmp .eq 15, 3) := by decide +kernel
theorem dX3_readLaw_27 : decode cX3_readLaw 27 = .ok (.iload_n 1, 1) := by decide +kernel
theorem dX3_readLaw_28 : decode cX3_readLaw 28 = .ok (.bipush 11, 2) := by decide +kernel
theorem dX3_readLaw_30 : decode cX3_readLaw 30 = .ok (.if_icmp .eq 9, 3) := by decide +kernel
theorem dX3_readLaw_33 : decode cX3_readLaw 33 = .ok (.aload_n 0, 1) := by decide +kernel
theorem dX3_readLaw_34 : decode cX3_readLaw 34 = .ok (.iconst 1, 1) := by decide +kernel
theorem dX3_readLaw_35 : decode cX3_readLaw 35 = .ok (.invokevirtual 77, 3) := by decide +kernel
theorem dX3_readLaw_38 : decode cX3_readLaw 38 = .ok (.return_, 1) := by decide +kernel
theorem dX3_readLaw_39 : decode cX3_readLaw 39 = .ok (.iload_n 1, 1) := by decide +kernel
theorem dX3_readLaw_40 : decode cX3_readLaw 40 = .ok (.bipush 9, 2) := by decide +kernel
theorem dX3_readLaw_42 : decode cX3_readLaw 42 = .ok (.if_icmp .ne 13, 3) := by decide +kernel
theorem dX3_readLaw_45 : decode cX3_readLaw 45 = .ok (.aload_n 0, 1) := by decide +kernel
theorem dX3_readLaw_46 : decode cX3_readLaw 46 = .ok (.getfield 21, 3) := by decide +kernel
theorem dX3_readLaw_49 : decode cX3_readLaw 49 = .ok (.getfield 191, 3) := by decide +kernel
theorem dX3_readLaw_52 : decode cX3_readLaw 52 = .ok (.goto 26, 3) := by decide +kernel
theorem dX3_readLaw_55 : decode cX3_readLaw 55 = .ok (.iload_n 1, 1) := by decide +kernel
theorem dX3_readLaw_56 : decode cX3_readLaw 56 = .ok (.bipush 10, 2) := by decide +kernel
theorem dX3_readLaw_58 : decode cX3_readLaw 58 = .ok (.if_icmp .ne 13, 3) := by decide +kernel
theorem dX3_readLaw_61 : decode cX3_readLaw 61 = .ok (.aload_n 0, 1) := by decide +kernel
theorem dX3_readLaw_62 : decode cX3_readLaw 62 = .ok (.getfield 21, 3) := by decide +kernel
theorem dX3_readLaw_65 : decode cX3_readLaw 65 = .ok (.getfield 195, 3) := by decide +kernel
theorem dX3_readLaw_68 : decode cX3_readLaw 68 = .ok (.goto 10, 3) := by decide +kernel
theorem dX3_readLaw_71 : decode cX3_readLaw 71 = .ok (.aload_n 0, 1) := by decide +kernel
theorem dX3_readLaw_72 : decode cX3_readLaw 72 = .ok (.getfield 21, 3) := by decide +kernel
theorem dX3_readLaw_75 : decode cX3_readLaw 75 = .ok (.getfield 198, 3) := by decide +kernel
theorem dX3_readLaw_78 : decode cX3_readLaw 78 = .ok (.astore_n 2, 1) := by decide +kernel
theorem dX3_readLaw_79 : decode cX3_readLaw 79 = .ok (.aload_n 2, 1) := by decide +kernel
theorem dX3_readLaw_80 : decode cX3_readLaw 80 = .ok (.getfield 201, 3) := by decide +kernel
theorem dX3_readLaw_83 : decode cX3_readLaw 83 = .ok (.ifCond .eq 9, 3) := by decide +kernel
theorem dX3_readLaw_86 : decode cX3_readLaw 86 = .ok (.aload_n 0, 1) := by decide +kernel
theorem dX3_readLaw_87 : decode cX3_readLaw 87 = .ok (.iconst 3, 1) := by decide +kernel
theorem dX3_readLaw_88 : decode cX3_readLaw 88 = .ok (.invokevirtual 77, 3) := by decide +kernel
theorem dX3_readLaw_91 : decode cX3_readLaw 91 = .ok (.return_, 1) := by decide +kernel
theorem dX3_readLaw_92 : decode cX3_readLaw 92 = .ok (.aload_n 2, 1) := by decide +kernel
theorem dX3_readLaw_93 : decode cX3_readLaw 93 = .ok (.iconst 1, 1) := by decide +kernel
theorem dX3_readLaw_94 : decode cX3_readLaw 94 = .ok (.putfield 201, 3) := by decide +kernel
theorem dX3_readLaw_97 : decode cX3_readLaw 97 = .ok (.aload_n 0, 1) := by decide +kernel
theorem dX3_readLaw_98 : decode cX3_readLaw 98 = .ok (.getfield 12, 3) := by decide +kernel
theorem dX3_readLaw_101 : decode cX3_readLaw 101 = .ok (.invokevirtual 83, 3) := by decide +kernel
theorem dX3_readLaw_104 : decode cX3_readLaw 104 = .ok (.aload_n 0, 1) := by decide +kernel
theorem dX3_readLaw_105 : decode cX3_readLaw 105 = .ok (.aload_n 2, 1) := by decide +kernel
theorem dX3_readLaw_106 : decode cX3_readLaw 106 = .ok (.invokevirtual 206, 3) := by decide +kernel
theorem dX3_readLaw_109 : decode cX3_readLaw 109 = .ok (.return_, 1) := by decide +kernel
theorem dX3_readValue_0 : decode cX3_readValue 0 = .ok (.aload_n 0, 1) := by decide +kernel
theorem dX3_readValue_1 : decode cX3_readValue 1 = .ok (.iconst 0, 1) := by decide +kernel
theorem dX3_readValue_2 : decode cX3_readValue 2 = .ok (.putfield 210, 3) := by decide +kernel
theorem dX3_readValue_5 : decode cX3_readValue 5 = .ok (.aload_n 0, 1) := by decide +kernel
theorem dX3_readValue_6 : decode cX3_readValue 6 = .ok (.iconst 0, 1) := by decide +kernel
theorem dX3_readValue_7 : decode cX3_readValue 7 = .ok (.putfield 213, 3) := by decide +kernel
theorem dX3_readValue_10 : decode cX3_readValue 10 = .ok (.iconst 1, 1) := by decide +kernel
theorem dX3_readValue_11 : decode cX3_readValue 11 = .ok (.istore_n 2, 1) := by decide +kernel
theorem dX3_readValue_12 : decode cX3_readValue 12 = .ok (.iconst 0, 1) := by decide +kernel
theorem dX3_readValue_13 : decode cX3_readValue 13 = .ok (.istore_n 3, 1) := by decide +kernel
theorem dX3_readValue_14 : decode cX3_readValue 14 = .ok (.iload_n 3, 1) := by decide +kernel
theorem dX3_readValue_15 : decode cX3_readValue 15 = .ok (.sipush 700, 3) := by decide +kernel
theorem dX3_readValue_18 : decode cX3_readValue 18 = .ok (.if_icmp .gt 141, 3) := by decide +kernel
theorem dX3_readValue_21 : decode cX3_readValue 21 = .ok (.aload_n 0, 1) := by decide +kernel
theorem dX3_readValue_22 : decode cX3_readValue 22 = .ok (.getfield 43, 3) := by decide +kernel
theorem dX3_readValue_25 : decode cX3_readValue 25 = .ok (.ifCond .ne 134, 3) := by decide +kernel
theorem dX3_readValue_28 : decode cX3_readValue 28 = .ok (.aload_n 0, 1) := by decide +kernel
theorem dX3_readValue_29 : decode cX3_readValue 29 = .ok (.getfield 12, 3) := by decide +kernel
theorem dX3_readValue_32 : decode cX3_readValue 32 = .ok (.getfield 50, 3) := by decide +kernel
theorem dX3_readValue_35 : decode cX3_readValue 35 = .ok (.istore 4, 2) := by decide +kernel
theorem dX3_readValue_37 : decode cX3_readValue 37 = .ok (.iload_n 2, 1) := by decide +kernel
theorem dX3_readValue_38 : decode cX3_readValue 38 = .ok (.ifCond .eq 33, 3) := by decide +kernel
theorem dX3_readValue_41 : decode cX3_readValue 41 = .ok (.aload_n 0, 1) := by decide +kernel
theorem dX3_readValue_42 : decode cX3_readValue 42 = .ok (.aload_n 1, 1) := by decide +kernel
theorem dX3_readValue_43 : decode cX3_readValue 43 = .ok (.iload 4, 2) := by decide +kernel
theorem dX3_readValue_45 : decode cX3_readValue 45 = .ok (.invokevirtual 216, 3) := by decide +kernel
theorem dX3_readValue_48 : decode cX3_readValue 48 = .ok (.iload 4, 2) := by decide +kernel
theorem dX3_readValue_50 : decode cX3_readValue 50 = .ok (.bipush 14, 2) := by decide +kernel
theorem dX3_readValue_52 : decode cX3_readValue 52 = .ok (.if_icmp .eq 10, 3) := by decide +kernel
theorem dX3_readValue_55 : decode cX3_readValue 55 = .ok (.iload 4, 2) := by decide +kernel
theorem dX3_readValue_57 : decode cX3_readValue 57 = .ok (.bipush 24, 2) := by decide +kernel
theorem dX3_readValue_59 : decode cX3_readValue 59 = .ok (.if_icmp .ne 7, 3) := by decide +kernel
theorem dX3_readValue_62 : decode cX3_readValue 62 = .ok (.iconst 1, 1) := by decide +kernel
theorem dX3_readValue_63 : decode cX3_readValue 63 = .ok (.goto 4, 3) := by decide +kernel
theorem dX3_readValue_66 : decode cX3_readValue 66 = .ok (.iconst 0, 1) := by decide +kernel
theorem dX3_readValue_67 : decode cX3_readValue 67 = .ok (.istore_n 2, 1) := by decide +kernel
theorem dX3_readValue_68 : decode cX3_readValue 68 = .ok (.goto 71, 3) := by decide +kernel
theorem dX3_readValue_71 : decode cX3_readValue 71 = .ok (.iload 4, 2) := by decide +kernel
theorem dX3_readValue_73 : decode cX3_readValue 73 = .ok (.invokestatic 220, 3) := by decide +kernel
theorem dX3_readValue_76 : decode cX3_readValue 76 = .ok (.ifCond .le 22, 3) := by decide +kernel
theorem dX3_readValue_79 : decode cX3_readValue 79 = .ok (.iload 4, 2) := by decide +kernel
theorem dX3_readValue_81 : decode cX3_readValue 81 = .ok (.bipush 14, 2) := by decide +kernel
theorem dX3_readValue_83 : decode cX3_readValue 83 = .ok (.if_icmp .eq 15, 3) := by decide +kernel
theorem dX3_readValue_86 : decode cX3_readValue 86 = .ok (.aload_n 0, 1) := by decide +kernel
theorem dX3_readValue_87 : decode cX3_readValue 87 = .ok (.aload_n 1, 1) := by decide +kernel
theorem dX3_readValue_88 : decode cX3_readValue 88 = .ok (.iload 4, 2) := by decide +kernel
theorem dX3_readValue_90 : decode cX3_readValue 90 = .ok (.invokevirtual 224, 3) := by decide +kernel
theorem dX3_readValue_93 : decode cX3_readValue 93 = .ok (.iconst 1, 1) := by decide +kernel
theorem dX3_readValue_94 : decode cX3_readValue 94 = .ok (.istore_n 2, 1) := by decide +kernel
theorem dX3_readValue_95 : decode cX3_readValue 95 = .ok (.goto 44, 3) := by decide +kernel
theorem dX3_readValue_98 : decode cX3_readValue 98 = .ok (.iload 4, 2) := by decide +kernel
theorem dX3_readValue_100 : decode cX3_readValue 100 = .ok (.bipush 25, 2) := by decide +kernel
theorem dX3_readValue_102 : decode cX3_readValue 102 = .ok (.if_icmp .ne 18, 3) := by decide +kernel
theorem dX3_readValue_105 : decode cX3_readValue 105 = .ok (.aload_n 0, 1) := by decide +kernel
theorem dX3_readValue_106 : decode cX3_readValue 106 = .ok (.getfield 213, 3) := by decide +kernel
theorem dX3_readValue_109 : decode cX3_readValue 109 = .ok (.ifCond .le 11, 3) := by decide +kernel
theorem dX3_readValue_112 : decode cX3_readValue 112 = .ok (.aload_n 0, 1) := by decide +kernel
theorem dX3_readValue_113 : decode cX3_readValue 113 = .ok (.aload_n 1, 1) := by decide +kernel
theorem dX3_readValue_114 : decode cX3_readValue 114 = .ok (.invokevirtual 227, 3) := by decide +kernel
theorem dX3_readValue_117 : decode cX3_readValue 117 = .ok (.goto 22, 3) := by decide +kernel
theorem dX3_readValue_120 : decode cX3_readValue 120 = .ok (.aload_n 0, 1) := by decide +kernel
theorem dX3_readValue_121 : decode cX3_readValue 121 = .ok (.aload_n 1, 1) := by decide +kernel
theorem dX3_readValue_122 : decode cX3_readValue 122 = .ok (.iconst 1, 1) := by decide +kernel
theorem dX3_readValue_123 : decode cX3_readValue 123 = .ok (.invokevirtual 230, 3) := by decide +kernel
theorem dX3_readValue_126 : decode cX3_readValue 126 = .ok (.aload_n 0, 1) := by decide +kernel
theorem dX3_readValue_127 : decode cX3_readValue 127 = .ok (.getfield 213, 3) := by decide +kernel
theorem dX3_readValue_130 : decode cX3_readValue 130 = .ok (.ifCond .le 8, 3) := by decide +kernel
theorem dX3_readValue_133 : decode cX3_readValue 133 = .ok (.aload_n 0, 1) := by decide +kernel
theorem dX3_readValue_134 : decode cX3_readValue 134 = .ok (.iconst 1, 1) := by decide +kernel
theorem dX3_readValue_135 : decode cX3_readValue 135 = .ok (.invokevirtual 77, 3) := by decide +kernel
theorem dX3_readValue_138 : decode cX3_readValue 138 = .ok (.return_, 1) := by decide +kernel
theorem dX3_readValue_139 : decode cX3_readValue 139 = .ok (.aload_n 0, 1) := by decide +kernel
theorem dX3_readValue_140 : decode cX3_readValue 140 = .ok (.getfield 43, 3) := by decide +kernel
theorem dX3_readValue_143 : decode cX3_readValue 143 = .ok (.ifCond .ne 10, 3) := by decide +kernel
theorem dX3_readValue_146 : decode cX3_readValue 146 = .ok (.aload_n 0, 1) := by decide +kernel
theorem dX3_readValue_147 : decode cX3_readValue 147 = .ok (.getfield 12, 3) := by decide +kernel
theorem dX3_readValue_150 : decode cX3_readValue 150 = .ok (.invokevirtual 83, 3) := by decide +kernel
theorem dX3_readValue_153 : decode cX3_readValue 153 = .ok (.iinc 3 1, 3) := by decide +kernel
theorem dX3_readValue_156 : decode cX3_readValue 156 = .ok (.goto (-142), 3) := by decide +kernel
theorem dX3_readValue_159 : decode cX3_readValue 159 = .ok (.return_, 1) := by decide +kernel
theorem dX3_takeStart_0 : decode cX3_takeStart 0 = .ok (.iload_n 2, 1) := by decide +kernel
theorem dX3_takeStart_1 : decode cX3_takeStart 1 = .ok (.bipush 24, 2) := by decide +kernel
theorem dX3_takeStart_3 : decode cX3_takeStart 3 = .ok (.if_icmp .ne 36, 3) := by decide +kernel
theorem dX3_takeStart_6 : decode cX3_takeStart 6 = .ok (.aload_n 0, 1) := by decide +kernel
theorem dX3_takeStart_7 : decode cX3_takeStart 7 = .ok (.dup, 1) := by decide +kernel
theorem dX3_takeStart_8 : decode cX3_takeStart 8 = .ok (.getfield 213, 3) := by decide +kernel
theorem dX3_takeStart_11 : decode cX3_takeStart 11 = .ok (.iconst 1, 1) := by decide +kernel
theorem dX3_takeStart_12 : decode cX3_takeStart 12 = .ok (.iadd, 1) := by decide +kernel
theorem dX3_takeStart_13 : decode cX3_takeStart 13 = .ok (.putfield 213, 3) := by decide +kernel
theorem dX3_takeStart_16 : decode cX3_takeStart 16 = .ok (.aload_n 0, 1) := by decide +kernel
theorem dX3_takeStart_17 : decode cX3_takeStart 17 = .ok (.bipush 24, 2) := by decide +kernel
theorem dX3_takeStart_19 : decode cX3_takeStart 19 = .ok (.aload_n 0, 1) := by decide +kernel
theorem dX3_takeStart_20 : decode cX3_takeStart 20 = .ok (.getfield 213, 3) := by decide +kernel
theorem dX3_takeStart_23 : decode cX3_takeStart 23 = .ok (.bipush 8, 2) := by decide +kernel
theorem dX3_takeStart_25 : decode cX3_takeStart 25 = .ok (.if_icmp .gt 7, 3) := by decide +kernel
theorem dX3_takeStart_28 : decode cX3_takeStart 28 = .ok (.iconst 1, 1) := by decide +kernel
theorem dX3_takeStart_29 : decode cX3_takeStart 29 = .ok (.goto 4, 3) := by decide +kernel
theorem dX3_takeStart_32 : decode cX3_takeStart 32 = .ok (.iconst 0, 1) := by decide +kernel
theorem dX3_takeStart_33 : decode cX3_takeStart 33 = .ok (.invokevirtual 233, 3) := by decide +kernel
theorem dX3_takeStart_36 : decode cX3_takeStart 36 = .ok (.goto 167, 3) := by decide +kernel
theorem dX3_takeStart_39 : decode cX3_takeStart 39 = .ok (.iload_n 2, 1) := by decide +kernel
theorem dX3_takeStart_40 : decode cX3_takeStart 40 = .ok (.bipush 14, 2) := by decide +kernel
theorem dX3_takeStart_42 : decode cX3_takeStart 42 = .ok (.if_icmp .ne 73, 3) := by decide +kernel
theorem dX3_takeStart_45 : decode cX3_takeStart 45 = .ok (.aload_n 0, 1) := by decide +kernel
theorem dX3_takeStart_46 : decode cX3_takeStart 46 = .ok (.getfield 210, 3) := by decide +kernel
theorem dX3_takeStart_49 : decode cX3_takeStart 49 = .ok (.ifCond .le 27, 3) := by decide +kernel
theorem dX3_takeStart_52 : decode cX3_takeStart 52 = .ok (.aload_n 0, 1) := by decide +kernel
theorem dX3_takeStart_53 : decode cX3_takeStart 53 = .ok (.getfield 25, 3) := by decide +kernel
theorem dX3_takeStart_56 : decode cX3_takeStart 56 = .ok (.aload_n 0, 1) := by decide +kernel
theorem dX3_takeStart_57 : decode cX3_takeStart 57 = .ok (.getfield 210, 3) := by decide +kernel
theorem dX3_takeStart_60 : decode cX3_takeStart 60 = .ok (.iconst 1, 1) := by decide +kernel
theorem dX3_takeStart_61 : decode cX3_takeStart 61 = .ok (.isub, 1) := by decide +kernel
theorem dX3_takeStart_62 : decode cX3_takeStart 62 = .ok (.iaload, 1) := by decide +kernel
theorem dX3_takeStart_63 : decode cX3_takeStart 63 = .ok (.invokestatic 220, 3) := by decide +kernel
theorem dX3_takeStart_66 : decode cX3_takeStart 66 = .ok (.iconst 3, 1) := by decide +kernel
theorem dX3_takeStart_67 : decode cX3_takeStart 67 = .ok (.if_icmp .le 9, 3) := by decide +kernel
theorem dX3_takeStart_70 : decode cX3_takeStart 70 = .ok (.aload_n 0, 1) := by decide +kernel
theorem dX3_takeStart_71 : decode cX3_takeStart 71 = .ok (.iconst 1, 1) := by decide +kernel
theorem dX3_takeStart_72 : decode cX3_takeStart 72 = .ok (.invokevirtual 77, 3) := by decide +kernel
theorem dX3_takeStart_75 : decode cX3_takeStart 75 = .ok (.return_, 1) := by decide +kernel
theorem dX3_takeStart_76 : decode cX3_takeStart 76 = .ok (.aload_n 0, 1) := by decide +kernel
theorem dX3_takeStart_77 : decode cX3_takeStart 77 = .ok (.getfield 21, 3) := by decide +kernel
theorem dX3_takeStart_80 : decode cX3_takeStart 80 = .ok (.dup, 1) := by decide +kernel
theorem dX3_takeStart_81 : decode cX3_takeStart 81 = .ok (.getfield 237, 3) := by decide +kernel
theorem dX3_takeStart_84 : decode cX3_takeStart 84 = .ok (.iconst 1, 1) := by decide +kernel
theorem dX3_takeStart_85 : decode cX3_takeStart 85 = .ok (.iadd, 1) := by decide +kernel
theorem dX3_takeStart_86 : decode cX3_takeStart 86 = .ok (.putfield 237, 3) := by decide +kernel
theorem dX3_takeStart_89 : decode cX3_takeStart 89 = .ok (.aload_n 0, 1) := by decide +kernel
theorem dX3_takeStart_90 : decode cX3_takeStart 90 = .ok (.bipush 14, 2) := by decide +kernel
theorem dX3_takeStart_92 : decode cX3_takeStart 92 = .ok (.aload_n 0, 1) := by decide +kernel
theorem dX3_takeStart_93 : decode cX3_takeStart 93 = .ok (.getfield 21, 3) := by decide +kernel
theorem dX3_takeStart_96 : decode cX3_takeStart 96 = .ok (.getfield 237, 3) := by decide +kernel
theorem dX3_takeStart_99 : decode cX3_takeStart 99 = .ok (.bipush 64, 2) := by decide +kernel
theorem dX3_takeStart_101 : decode cX3_takeStart 101 = .ok (.if_icmp .gt 7, 3) := by decide +kernel
theorem dX3_takeStart_104 : decode cX3_takeStart 104 = .ok (.iconst 1, 1) := by decide +kernel
theorem dX3_takeStart_105 : decode cX3_takeStart 105 = .ok (.goto 4, 3) := by decide +kernel
theorem dX3_takeStart_108 : decode cX3_takeStart 108 = .ok (.iconst 0, 1) := by decide +kernel
theorem dX3_takeStart_109 : decode cX3_takeStart 109 = .ok (.invokevirtual 233, 3) := by decide +kernel
theorem dX3_takeStart_112 : decode cX3_takeStart 112 = .ok (.goto 91, 3) := by decide +kernel
theorem dX3_takeStart_115 : decode cX3_takeStart 115 = .ok (.iload_n 2, 1) := by decide +kernel
theorem dX3_takeStart_116 : decode cX3_takeStart 116 = .ok (.bipush 23, 2) := by decide +kernel
theorem dX3_takeStart_118 : decode cX3_takeStart 118 = .ok (.if_icmp .eq 15, 3) := by decide +kernel
theorem dX3_takeStart_121 : decode cX3_takeStart 121 = .ok (.iload_n 2, 1) := by decide +kernel
theorem dX3_takeStart_122 : decode cX3_takeStart 122 = .ok (.bipush 15, 2) := by decide +kernel
theorem dX3_takeStart_124 : decode cX3_takeStart 124 = .ok (.if_icmp .lt 74, 3) := by decide +kernel
theorem dX3_takeStart_127 : decode cX3_takeStart 127 = .ok (.iload_n 2, 1) := by decide +kernel
theorem dX3_takeStart_128 : decode cX3_takeStart 128 = .ok (.bipush 21, 2) := by decide +kernel
theorem dX3_takeStart_130 : decode cX3_takeStart 130 = .ok (.if_icmp .gt 68, 3) := by decide +kernel
theorem dX3_takeStart_133 : decode cX3_takeStart 133 = .ok (.aload_n 0, 1) := by decide +kernel
theorem dX3_takeStart_134 : decode cX3_takeStart 134 = .ok (.getfield 21, 3) := by decide +kernel
theorem dX3_takeStart_137 : decode cX3_takeStart 137 = .ok (.dup, 1) := by decide +kernel
theorem dX3_takeStart_138 : decode cX3_takeStart 138 = .ok (.getfield 237, 3) := by decide +kernel
theorem dX3_takeStart_141 : decode cX3_takeStart 141 = .ok (.iconst 1, 1) := by decide +kernel
theorem dX3_takeStart_142 : decode cX3_takeStart 142 = .ok (.iadd, 1) := by decide +kernel
theorem dX3_takeStart_143 : decode cX3_takeStart 143 = .ok (.putfield 237, 3) := by decide +kernel
theorem dX3_takeStart_146 : decode cX3_takeStart 146 = .ok (.aload_n 0, 1) := by decide +kernel
theorem dX3_takeStart_147 : decode cX3_takeStart 147 = .ok (.getfield 21, 3) := by decide +kernel
theorem dX3_takeStart_150 : decode cX3_takeStart 150 = .ok (.getfield 237, 3) := by decide +kernel
theorem dX3_takeStart_153 : decode cX3_takeStart 153 = .ok (.bipush 64, 2) := by decide +kernel
theorem dX3_takeStart_155 : decode cX3_takeStart 155 = .ok (.if_icmp .gt 22, 3) := by decide +kernel
theorem dX3_takeStart_158 : decode cX3_takeStart 158 = .ok (.iload_n 2, 1) := by decide +kernel
theorem dX3_takeStart_159 : decode cX3_takeStart 159 = .ok (.bipush 23, 2) := by decide +kernel
theorem dX3_takeStart_161 : decode cX3_takeStart 161 = .ok (.if_icmp .ne 22, 3) := by decide +kernel
theorem dX3_takeStart_164 : decode cX3_takeStart 164 = .ok (.aload_n 0, 1) := by decide +kernel
theorem dX3_takeStart_165 : decode cX3_takeStart 165 = .ok (.getfield 12, 3) := by decide +kernel
theorem dX3_takeStart_168 : decode cX3_takeStart 168 = .ok (.getfield 102, 3) := by decide +kernel
theorem dX3_takeStart_171 : decode cX3_takeStart 171 = .ok (.sipush 9999, 3) := by decide +kernel
theorem dX3_takeStart_174 : decode cX3_takeStart 174 = .ok (.if_icmp .le 9, 3) := by decide +kernel
theorem dX3_takeStart_177 : decode cX3_takeStart 177 = .ok (.aload_n 0, 1) := by decide +kernel
theorem dX3_takeStart_178 : decode cX3_takeStart 178 = .ok (.iconst 2, 1) := by decide +kernel
theorem dX3_takeStart_179 : decode cX3_takeStart 179 = .ok (.invokevirtual 77, 3) := by decide +kernel
theorem dX3_takeStart_182 : decode cX3_takeStart 182 = .ok (.return_, 1) := by decide +kernel
theorem dX3_takeStart_183 : decode cX3_takeStart 183 = .ok (.aload_n 1, 1) := by decide +kernel
theorem dX3_takeStart_184 : decode cX3_takeStart 184 = .ok (.iload_n 2, 1) := by decide +kernel
theorem dX3_takeStart_185 : decode cX3_takeStart 185 = .ok (.aload_n 0, 1) := by decide +kernel
theorem dX3_takeStart_186 : decode cX3_takeStart 186 = .ok (.getfield 12, 3) := by decide +kernel
theorem dX3_takeStart_189 : decode cX3_takeStart 189 = .ok (.getfield 102, 3) := by decide +kernel
theorem dX3_takeStart_192 : decode cX3_takeStart 192 = .ok (.invokevirtual 240, 3) := by decide +kernel
theorem dX3_takeStart_195 : decode cX3_takeStart 195 = .ok (.goto 8, 3) := by decide +kernel
theorem dX3_takeStart_198 : decode cX3_takeStart 198 = .ok (.aload_n 0, 1) := by decide +kernel
theorem dX3_takeStart_199 : decode cX3_takeStart 199 = .ok (.iconst 1, 1) := by decide +kernel
theorem dX3_takeStart_200 : decode cX3_takeStart 200 = .ok (.invokevirtual 77, 3) := by decide +kernel
theorem dX3_takeStart_203 : decode cX3_takeStart 203 = .ok (.return_, 1) := by decide +kernel
theorem dX3_takeSign_0 : decode cX3_takeSign 0 = .ok (.iload_n 2, 1) := by decide +kernel
theorem dX3_takeSign_1 : decode cX3_takeSign 1 = .ok (.invokestatic 220, 3) := by decide +kernel
theorem dX3_takeSign_4 : decode cX3_takeSign 4 = .ok (.istore_n 3, 1) := by decide +kernel
theorem dX3_takeSign_5 : decode cX3_takeSign 5 = .ok (.aload_n 0, 1) := by decide +kernel
theorem dX3_takeSign_6 : decode cX3_takeSign 6 = .ok (.aload_n 1, 1) := by decide +kernel
theorem dX3_takeSign_7 : decode cX3_takeSign 7 = .ok (.iload_n 3, 1) := by decide +kernel
theorem dX3_takeSign_8 : decode cX3_takeSign 8 = .ok (.iconst 4, 1) := by decide +kernel
theorem dX3_takeSign_9 : decode cX3_takeSign 9 = .ok (.if_icmp .ne 7, 3) := by decide +kernel
theorem dX3_takeSign_12 : decode cX3_takeSign 12 = .ok (.iconst 5, 1) := by decide +kernel
theorem dX3_takeSign_13 : decode cX3_takeSign 13 = .ok (.goto 4, 3) := by decide +kernel
theorem dX3_takeSign_16 : decode cX3_takeSign 16 = .ok (.iload_n 3, 1) := by decide +kernel
theorem dX3_takeSign_17 : decode cX3_takeSign 17 = .ok (.invokevirtual 230, 3) := by decide +kernel
theorem dX3_takeSign_20 : decode cX3_takeSign 20 = .ok (.iload_n 3, 1) := by decide +kernel
theorem dX3_takeSign_21 : decode cX3_takeSign 21 = .ok (.iconst 4, 1) := by decide +kernel
theorem dX3_takeSign_22 : decode cX3_takeSign 22 = .ok (.if_icmp .ne 34, 3) := by decide +kernel
theorem dX3_takeSign_25 : decode cX3_takeSign 25 = .ok (.aload_n 0, 1) := by decide +kernel
theorem dX3_takeSign_26 : decode cX3_takeSign 26 = .ok (.getfield 210, 3) := by decide +kernel
theorem dX3_takeSign_29 : decode cX3_takeSign 29 = .ok (.ifCond .le 27, 3) := by decide +kernel
theorem dX3_takeSign_32 : decode cX3_takeSign 32 = .ok (.aload_n 0, 1) := by decide +kernel
theorem dX3_takeSign_33 : decode cX3_takeSign 33 = .ok (.getfield 25, 3) := by decide +kernel
theorem dX3_takeSign_36 : decode cX3_takeSign 36 = .ok (.aload_n 0, 1) := by decide +kernel
theorem dX3_takeSign_37 : decode cX3_takeSign 37 = .ok (.getfield 210, 3) := by decide +kernel
theorem dX3_takeSign_40 : decode cX3_takeSign 40 = .ok (.iconst 1, 1) := by decide +kernel
theorem dX3_takeSign_41 : decode cX3_takeSign 41 = .ok (.isub, 1) := by decide +kernel
theorem dX3_takeSign_42 : decode cX3_takeSign 42 = .ok (.iaload, 1) := by decide +kernel
theorem dX3_takeSign_43 : decode cX3_takeSign 43 = .ok (.invokestatic 220, 3) := by decide +kernel
theorem dX3_takeSign_46 : decode cX3_takeSign 46 = .ok (.iconst 4, 1) := by decide +kernel
theorem dX3_takeSign_47 : decode cX3_takeSign 47 = .ok (.if_icmp .ne 9, 3) := by decide +kernel
theorem dX3_takeSign_50 : decode cX3_takeSign 50 = .ok (.aload_n 0, 1) := by decide +kernel
theorem dX3_takeSign_51 : decode cX3_takeSign 51 = .ok (.iconst 1, 1) := by decide +kernel
theorem dX3_takeSign_52 : decode cX3_takeSign 52 = .ok (.invokevirtual 77, 3) := by decide +kernel
theorem dX3_takeSign_55 : decode cX3_takeSign 55 = .ok (.return_, 1) := by decide +kernel
theorem dX3_takeSign_56 : decode cX3_takeSign 56 = .ok (.aload_n 0, 1) := by decide +kernel
theorem dX3_takeSign_57 : decode cX3_takeSign 57 = .ok (.getfield 21, 3) := by decide +kernel
theorem dX3_takeSign_60 : decode cX3_takeSign 60 = .ok (.dup, 1) := by decide +kernel
theorem dX3_takeSign_61 : decode cX3_takeSign 61 = .ok (.getfield 237, 3) := by decide +kernel
theorem dX3_takeSign_64 : decode cX3_takeSign 64 = .ok (.iconst 1, 1) := by decide +kernel
theorem dX3_takeSign_65 : decode cX3_takeSign 65 = .ok (.iadd, 1) := by decide +kernel
theorem dX3_takeSign_66 : decode cX3_takeSign 66 = .ok (.putfield 237, 3) := by decide +kernel
theorem dX3_takeSign_69 : decode cX3_takeSign 69 = .ok (.aload_n 0, 1) := by decide +kernel
theorem dX3_takeSign_70 : decode cX3_takeSign 70 = .ok (.iload_n 2, 1) := by decide +kernel
theorem dX3_takeSign_71 : decode cX3_takeSign 71 = .ok (.aload_n 0, 1) := by decide +kernel
theorem dX3_takeSign_72 : decode cX3_takeSign 72 = .ok (.getfield 21, 3) := by decide +kernel
theorem dX3_takeSign_75 : decode cX3_takeSign 75 = .ok (.getfield 237, 3) := by decide +kernel
theorem dX3_takeSign_78 : decode cX3_takeSign 78 = .ok (.bipush 64, 2) := by decide +kernel
theorem dX3_takeSign_80 : decode cX3_takeSign 80 = .ok (.if_icmp .gt 7, 3) := by decide +kernel
theorem dX3_takeSign_83 : decode cX3_takeSign 83 = .ok (.iconst 1, 1) := by decide +kernel
theorem dX3_takeSign_84 : decode cX3_takeSign 84 = .ok (.goto 4, 3) := by decide +kernel
theorem dX3_takeSign_87 : decode cX3_takeSign 87 = .ok (.iconst 0, 1) := by decide +kernel
theorem dX3_takeSign_88 : decode cX3_takeSign 88 = .ok (.invokevirtual 233, 3) := by decide +kernel
theorem dX3_takeSign_91 : decode cX3_takeSign 91 = .ok (.return_, 1) := by decide +kernel
theorem dX3_takeClose_0 : decode cX3_takeClose 0 = .ok (.aload_n 0, 1) := by decide +kernel
theorem dX3_takeClose_1 : decode cX3_takeClose 1 = .ok (.aload_n 1, 1) := by decide +kernel
theorem dX3_takeClose_2 : decode cX3_takeClose 2 = .ok (.iconst 1, 1) := by decide +kernel
theorem dX3_takeClose_3 : decode cX3_takeClose 3 = .ok (.invokevirtual 230, 3) := by decide +kernel
theorem dX3_takeClose_6 : decode cX3_takeClose 6 = .ok (.aload_n 0, 1) := by decide +kernel
theorem dX3_takeClose_7 : decode cX3_takeClose 7 = .ok (.getfield 210, 3) := by decide +kernel
theorem dX3_takeClose_10 : decode cX3_takeClose 10 = .ok (.ifCond .le 13, 3) := by decide +kernel
theorem dX3_takeClose_13 : decode cX3_takeClose 13 = .ok (.aload_n 0, 1) := by decide +kernel
theorem dX3_takeClose_14 : decode cX3_takeClose 14 = .ok (.dup, 1) := by decide +kernel
theorem dX3_takeClose_15 : decode cX3_takeClose 15 = .ok (.getfield 210, 3) := by decide +kernel
theorem dX3_takeClose_18 : decode cX3_takeClose 18 = .ok (.iconst 1, 1) := by decide +kernel
theorem dX3_takeClose_19 : decode cX3_takeClose 19 = .ok (.isub, 1) := by decide +kernel
theorem dX3_takeClose_20 : decode cX3_takeClose 20 = .ok (.putfield 210, 3) := by decide +kernel
theorem dX3_takeClose_23 : decode cX3_takeClose 23 = .ok (.aload_n 0, 1) := by decide +kernel
theorem dX3_takeClose_24 : decode cX3_takeClose 24 = .ok (.dup, 1) := by decide +kernel
theorem dX3_takeClose_25 : decode cX3_takeClose 25 = .ok (.getfield 213, 3) := by decide +kernel
theorem dX3_takeClose_28 : decode cX3_takeClose 28 = .ok (.iconst 1, 1) := by decide +kernel
theorem dX3_takeClose_29 : decode cX3_takeClose 29 = .ok (.isub, 1) := by decide +kernel
theorem dX3_takeClose_30 : decode cX3_takeClose 30 = .ok (.putfield 213, 3) := by decide +kernel
theorem dX3_takeClose_33 : decode cX3_takeClose 33 = .ok (.return_, 1) := by decide +kernel
theorem dX3_await_0 : decode cX3_await 0 = .ok (.iload_n 2, 1) := by decide +kernel
theorem dX3_await_1 : decode cX3_await 1 = .ok (.ifCond .eq 15, 3) := by decide +kernel
theorem dX3_await_4 : decode cX3_await 4 = .ok (.aload_n 0, 1) := by decide +kernel
theorem dX3_await_5 : decode cX3_await 5 = .ok (.getfield 210, 3) := by decide +kernel
theorem dX3_await_8 : decode cX3_await 8 = .ok (.aload_n 0, 1) := by decide +kernel
theorem dX3_await_9 : decode cX3_await 9 = .ok (.getfield 25, 3) := by decide +kernel
theorem dX3_await_12 : decode cX3_await 12 = .ok (.arraylength, 1) := by decide +kernel
theorem dX3_await_13 : decode cX3_await 13 = .ok (.if_icmp .lt 9, 3) := by decide +kernel
theorem dX3_await_16 : decode cX3_await 16 = .ok (.aload_n 0, 1) := by decide +kernel
theorem dX3_await_17 : decode cX3_await 17 = .ok (.iconst 2, 1) := by decide +kernel
theorem dX3_await_18 : decode cX3_await 18 = .ok (.invokevirtual 77, 3) := by decide +kernel
theorem dX3_await_21 : decode cX3_await 21 = .ok (.return_, 1) := by decide +kernel
theorem dX3_await_22 : decode cX3_await 22 = .ok (.aload_n 0, 1) := by decide +kernel
theorem dX3_await_23 : decode cX3_await 23 = .ok (.getfield 25, 3) := by decide +kernel
theorem dX3_await_26 : decode cX3_await 26 = .ok (.aload_n 0, 1) := by decide +kernel
theorem dX3_await_27 : decode cX3_await 27 = .ok (.getfield 210, 3) := by decide +kernel
theorem dX3_await_30 : decode cX3_await 30 = .ok (.iload_n 1, 1) := by decide +kernel
theorem dX3_await_31 : decode cX3_await 31 = .ok (.iastore, 1) := by decide +kernel
theorem dX3_await_32 : decode cX3_await 32 = .ok (.aload_n 0, 1) := by decide +kernel
theorem dX3_await_33 : decode cX3_await 33 = .ok (.dup, 1) := by decide +kernel
theorem dX3_await_34 : decode cX3_await 34 = .ok (.getfield 210, 3) := by decide +kernel
theorem dX3_await_37 : decode cX3_await 37 = .ok (.iconst 1, 1) := by decide +kernel
theorem dX3_await_38 : decode cX3_await 38 = .ok (.iadd, 1) := by decide +kernel
theorem dX3_await_39 : decode cX3_await 39 = .ok (.putfield 210, 3) := by decide +kernel
theorem dX3_await_42 : decode cX3_await 42 = .ok (.return_, 1) := by decide +kernel
theorem dX3_release_0 : decode cX3_release 0 = .ok (.aload_n 0, 1) := by decide +kernel
theorem dX3_release_1 : decode cX3_release 1 = .ok (.getfield 210, 3) := by decide +kernel
theorem dX3_release_4 : decode cX3_release 4 = .ok (.ifCond .le 48, 3) := by decide +kernel
theorem dX3_release_7 : decode cX3_release 7 = .ok (.aload_n 0, 1) := by decide +kernel
theorem dX3_release_8 : decode cX3_release 8 = .ok (.getfield 25, 3) := by decide +kernel
theorem dX3_release_11 : decode cX3_release 11 = .ok (.aload_n 0, 1) := by decide +kernel
theorem dX3_release_12 : decode cX3_release 12 = .ok (.getfield 210, 3) := by decide +kernel
theorem dX3_release_15 : decode cX3_release 15 = .ok (.iconst 1, 1) := by decide +kernel
theorem dX3_release_16 : decode cX3_release 16 = .ok (.isub, 1) := by decide +kernel
theorem dX3_release_17 : decode cX3_release 17 = .ok (.iaload, 1) := by decide +kernel
theorem dX3_release_18 : decode cX3_release 18 = .ok (.invokestatic 220, 3) := by decide +kernel
theorem dX3_release_21 : decode cX3_release 21 = .ok (.iload_n 2, 1) := by decide +kernel
theorem dX3_release_22 : decode cX3_release 22 = .ok (.if_icmp .lt 30, 3) := by decide +kernel
theorem dX3_release_25 : decode cX3_release 25 = .ok (.aload_n 0, 1) := by decide +kernel
theorem dX3_release_26 : decode cX3_release 26 = .ok (.dup, 1) := by decide +kernel
theorem dX3_release_27 : decode cX3_release 27 = .ok (.getfield 210, 3) := by decide +kernel
theorem dX3_release_30 : decode cX3_release 30 = .ok (.iconst 1, 1) := by decide +kernel
theorem dX3_release_31 : decode cX3_release 31 = .ok (.isub, 1) := by decide +kernel
theorem dX3_release_32 : decode cX3_release 32 = .ok (.putfield 210, 3) := by decide +kernel
theorem dX3_release_35 : decode cX3_release 35 = .ok (.aload_n 1, 1) := by decide +kernel
theorem dX3_release_36 : decode cX3_release 36 = .ok (.aload_n 0, 1) := by decide +kernel
theorem dX3_release_37 : decode cX3_release 37 = .ok (.getfield 25, 3) := by decide +kernel
theorem dX3_release_40 : decode cX3_release 40 = .ok (.aload_n 0, 1) := by decide +kernel
theorem dX3_release_41 : decode cX3_release 41 = .ok (.getfield 210, 3) := by decide +kernel
theorem dX3_release_44 : decode cX3_release 44 = .ok (.iaload, 1) := by decide +kernel
theorem dX3_release_45 : decode cX3_release 45 = .ok (.iconst 0, 1) := by decide +kernel
theorem dX3_release_46 : decode cX3_release 46 = .ok (.invokevirtual 240, 3) := by decide +kernel
theorem dX3_release_49 : decode cX3_release 49 = .ok (.goto (-49), 3) := by decide +kernel
theorem dX3_release_52 : decode cX3_release 52 = .ok (.return_, 1) := by decide +kernel
theorem dX3_binding_0 : decode cX3_binding 0 = .ok (.iload_n 0, 1) := by decide +kernel
theorem dX3_binding_1 : decode cX3_binding 1 = .ok (.tableswitch 126 12 36 #[115, 117, 119, 126, 126, 126, 126, 126, 126, 126, 126, 126, 126, 126, 126, 126, 126, 126, 126, 126, 126, 121, 121, 123, 123], 115) := by decide +kernel
theorem dX3_binding_116 : decode cX3_binding 116 = .ok (.iconst 1, 1) := by decide +kernel
theorem dX3_binding_117 : decode cX3_binding 117 = .ok (.ireturn, 1) := by decide +kernel
theorem dX3_binding_118 : decode cX3_binding 118 = .ok (.iconst 2, 1) := by decide +kernel
theorem dX3_binding_119 : decode cX3_binding 119 = .ok (.ireturn, 1) := by decide +kernel
theorem dX3_binding_120 : decode cX3_binding 120 = .ok (.iconst 3, 1) := by decide +kernel
theorem dX3_binding_121 : decode cX3_binding 121 = .ok (.ireturn, 1) := by decide +kernel
theorem dX3_binding_122 : decode cX3_binding 122 = .ok (.iconst 5, 1) := by decide +kernel
theorem dX3_binding_123 : decode cX3_binding 123 = .ok (.ireturn, 1) := by decide +kernel
theorem dX3_binding_124 : decode cX3_binding 124 = .ok (.bipush 6, 2) := by decide +kernel
theorem dX3_binding_126 : decode cX3_binding 126 = .ok (.ireturn, 1) := by decide +kernel
theorem dX3_binding_127 : decode cX3_binding 127 = .ok (.iload_n 0, 1) := by decide +kernel
theorem dX3_binding_128 : decode cX3_binding 128 = .ok (.bipush 27, 2) := by decide +kernel
theorem dX3_binding_130 : decode cX3_binding 130 = .ok (.if_icmp .lt 13, 3) := by decide +kernel
theorem dX3_binding_133 : decode cX3_binding 133 = .ok (.iload_n 0, 1) := by decide +kernel
theorem dX3_binding_134 : decode cX3_binding 134 = .ok (.bipush 32, 2) := by decide +kernel
theorem dX3_binding_136 : decode cX3_binding 136 = .ok (.if_icmp .gt 7, 3) := by decide +kernel
theorem dX3_binding_139 : decode cX3_binding 139 = .ok (.iconst 4, 1) := by decide +kernel
theorem dX3_binding_140 : decode cX3_binding 140 = .ok (.goto 4, 3) := by decide +kernel
theorem dX3_binding_143 : decode cX3_binding 143 = .ok (.iconst 0, 1) := by decide +kernel
theorem dX3_binding_144 : decode cX3_binding 144 = .ok (.ireturn, 1) := by decide +kernel
theorem dX4_fewestOff_0 : decode cX4_fewestOff 0 = .ok (.aload_n 2, 1) := by decide +kernel
theorem dX4_fewestOff_1 : decode cX4_fewestOff 1 = .ok (.getfield 34, 3) := by decide +kernel
theorem dX4_fewestOff_4 : decode cX4_fewestOff 4 = .ok (.iload_n 3, 1) := by decide +kernel
theorem dX4_fewestOff_5 : decode cX4_fewestOff 5 = .ok (.iaload, 1) := by decide +kernel
theorem dX4_fewestOff_6 : decode cX4_fewestOff 6 = .ok (.istore 5, 2) := by decide +kernel
theorem dX4_fewestOff_8 : decode cX4_fewestOff 8 = .ok (.aload_n 2, 1) := by decide +kernel
theorem dX4_fewestOff_9 : decode cX4_fewestOff 9 = .ok (.getfield 39, 3) := by decide +kernel
theorem dX4_fewestOff_12 : decode cX4_fewestOff 12 = .ok (.iload 5, 2) := by decide +kernel
theorem dX4_fewestOff_14 : decode cX4_fewestOff 14 = .ok (.iaload, 1) := by decide +kernel
theorem dX4_fewestOff_15 : decode cX4_fewestOff 15 = .ok (.istore 6, 2) := by decide +kernel
theorem dX4_fewestOff_17 : decode cX4_fewestOff 17 = .ok (.iconst 0, 1) := by decide +kernel
theorem dX4_fewestOff_18 : decode cX4_fewestOff 18 = .ok (.istore 7, 2) := by decide +kernel
theorem dX4_fewestOff_20 : decode cX4_fewestOff 20 = .ok (.iconst 0, 1) := by decide +kernel
theorem dX4_fewestOff_21 : decode cX4_fewestOff 21 = .ok (.istore 8, 2) := by decide +kernel
theorem dX4_fewestOff_23 : decode cX4_fewestOff 23 = .ok (.iload 8, 2) := by decide +kernel
theorem dX4_fewestOff_25 : decode cX4_fewestOff 25 = .ok (.bipush 8, 2) := by decide +kernel
theorem dX4_fewestOff_27 : decode cX4_fewestOff 27 = .ok (.if_icmp .ge 53, 3) := by decide +kernel
theorem dX4_fewestOff_30 : decode cX4_fewestOff 30 = .ok (.aload_n 0, 1) := by decide +kernel
theorem dX4_fewestOff_31 : decode cX4_fewestOff 31 = .ok (.getfield 18, 3) := by decide +kernel
theorem dX4_fewestOff_34 : decode cX4_fewestOff 34 = .ok (.iload 8, 2) := by decide +kernel
theorem dX4_fewestOff_36 : decode cX4_fewestOff 36 = .ok (.aload_n 2, 1) := by decide +kernel
theorem dX4_fewestOff_37 : decode cX4_fewestOff 37 = .ok (.iload 5, 2) := by decide +kernel
theorem dX4_fewestOff_39 : decode cX4_fewestOff 39 = .ok (.iload 8, 2) := by decide +kernel
theorem dX4_fewestOff_41 : decode cX4_fewestOff 41 = .ok (.invokevirtual 42, 3) := by decide +kernel
theorem dX4_fewestOff_44 : decode cX4_fewestOff 44 = .ok (.aload_n 1, 1) := by decide +kernel
theorem dX4_fewestOff_45 : decode cX4_fewestOff 45 = .ok (.iload_n 3, 1) := by decide +kernel
theorem dX4_fewestOff_46 : decode cX4_fewestOff 46 = .ok (.iload 8, 2) := by decide +kernel
theorem dX4_fewestOff_48 : decode cX4_fewestOff 48 = .ok (.aload_n 2, 1) := by decide +kernel
theorem dX4_fewestOff_49 : decode cX4_fewestOff 49 = .ok (.getfield 46, 3) := by decide +kernel
theorem dX4_fewestOff_52 : decode cX4_fewestOff 52 = .ok (.iload_n 3, 1) := by decide +kernel
theorem dX4_fewestOff_53 : decode cX4_fewestOff 53 = .ok (.iaload, 1) := by decide +kernel
theorem dX4_fewestOff_54 : decode cX4_fewestOff 54 = .ok (.invokevirtual 49, 3) := by decide +kernel
theorem dX4_fewestOff_57 : decode cX4_fewestOff 57 = .ok (.isub, 1) := by decide +kernel
theorem dX4_fewestOff_58 : decode cX4_fewestOff 58 = .ok (.iastore, 1) := by decide +kernel
theorem dX4_fewestOff_59 : decode cX4_fewestOff 59 = .ok (.iload 7, 2) := by decide +kernel
theorem dX4_fewestOff_61 : decode cX4_fewestOff 61 = .ok (.aload_n 0, 1) := by decide +kernel
theorem dX4_fewestOff_62 : decode cX4_fewestOff 62 = .ok (.getfield 18, 3) := by decide +kernel
theorem dX4_fewestOff_65 : decode cX4_fewestOff 65 = .ok (.iload 8, 2) := by decide +kernel
theorem dX4_fewestOff_67 : decode cX4_fewestOff 67 = .ok (.iaload, 1) := by decide +kernel
theorem dX4_fewestOff_68 : decode cX4_fewestOff 68 = .ok (.invokestatic 55, 3) := by decide +kernel
theorem dX4_fewestOff_71 : decode cX4_fewestOff 71 = .ok (.iadd, 1) := by decide +kernel
theorem dX4_fewestOff_72 : decode cX4_fewestOff 72 = .ok (.istore 7, 2) := by decide +kernel
theorem dX4_fewestOff_74 : decode cX4_fewestOff 74 = .ok (.iinc 8 1, 3) := by decide +kernel
theorem dX4_fewestOff_77 : decode cX4_fewestOff 77 = .ok (.goto (-54), 3) := by decide +kernel
theorem dX4_fewestOff_80 : decode cX4_fewestOff 80 = .ok (.iload 7, 2) := by decide +kernel
theorem dX4_fewestOff_82 : decode cX4_fewestOff 82 = .ok (.iload 4, 2) := by decide +kernel
theorem dX4_fewestOff_84 : decode cX4_fewestOff 84 = .ok (.if_icmp .gt 7, 3) := by decide +kernel
theorem dX4_fewestOff_87 : decode cX4_fewestOff 87 = .ok (.iconst 0, 1) := by decide +kernel
theorem dX4_fewestOff_88 : decode cX4_fewestOff 88 = .ok (.goto 5, 3) := by decide +kernel
theorem dX4_fewestOff_91 : decode cX4_fewestOff 91 = .ok (.bipush (-2), 2) := by decide +kernel
theorem dX4_fewestOff_93 : decode cX4_fewestOff 93 = .ok (.istore 8, 2) := by decide +kernel
theorem dX4_fewestOff_95 : decode cX4_fewestOff 95 = .ok (.iload 7, 2) := by decide +kernel
theorem dX4_fewestOff_97 : decode cX4_fewestOff 97 = .ok (.iload 4, 2) := by decide +kernel
theorem dX4_fewestOff_99 : decode cX4_fewestOff 99 = .ok (.if_icmp .gt 7, 3) := by decide +kernel
theorem dX4_fewestOff_102 : decode cX4_fewestOff 102 = .ok (.iconst 0, 1) := by decide +kernel
theorem dX4_fewestOff_103 : decode cX4_fewestOff 103 = .ok (.goto 5, 3) := by decide +kernel
theorem dX4_fewestOff_106 : decode cX4_fewestOff 106 = .ok (.bipush 13, 2) := by decide +kernel
theorem dX4_fewestOff_108 : decode cX4_fewestOff 108 = .ok (.istore 9, 2) := by decide +kernel
theorem dX4_fewestOff_110 : decode cX4_fewestOff 110 = .ok (.iconst 1, 1) := by decide +kernel
theorem dX4_fewestOff_111 : decode cX4_fewestOff 111 = .ok (.istore 10, 2) := by decide +kernel
theorem dX4_fewestOff_113 : decode cX4_fewestOff 113 = .ok (.iload 10, 2) := by decide +kernel
theorem dX4_fewestOff_115 : decode cX4_fewestOff 115 = .ok (.iconst 1, 1) := by decide +kernel
theorem dX4_fewestOff_116 : decode cX4_fewestOff 116 = .ok (.iload 6, 2) := by decide +kernel
theorem dX4_fewestOff_118 : decode cX4_fewestOff 118 = .ok (.ishl, 1) := by decide +kernel
theorem dX4_fewestOff_119 : decode cX4_fewestOff 119 = .ok (.if_icmp .ge 124, 3) := by decide +kernel
theorem dX4_fewestOff_122 : decode cX4_fewestOff 122 = .ok (.iconst 0, 1) := by decide +kernel
theorem dX4_fewestOff_123 : decode cX4_fewestOff 123 = .ok (.istore 11, 2) := by decide +kernel
theorem dX4_fewestOff_125 : decode cX4_fewestOff 125 = .ok (.iload 11, 2) := by decide +kernel
theorem dX4_fewestOff_127 : decode cX4_fewestOff 127 = .ok (.iload 6, 2) := by decide +kernel
theorem dX4_fewestOff_129 : decode cX4_fewestOff 129 = .ok (.if_icmp .ge 80, 3) := by decide +kernel
theorem dX4_fewestOff_132 : decode cX4_fewestOff 132 = .ok (.iload 10, 2) := by decide +kernel
theorem dX4_fewestOff_134 : decode cX4_fewestOff 134 = .ok (.iload 10, 2) := by decide +kernel
theorem dX4_fewestOff_136 : decode cX4_fewestOff 136 = .ok (.iconst 1, 1) := by decide +kernel
theorem dX4_fewestOff_137 : decode cX4_fewestOff 137 = .ok (.isub, 1) := by decide +kernel
theorem dX4_fewestOff_138 : decode cX4_fewestOff 138 = .ok (.ixor, 1) := by decide +kernel
theorem dX4_fewestOff_139 : decode cX4_fewestOff 139 = .ok (.iload 11, 2) := by decide +kernel
theorem dX4_fewestOff_141 : decode cX4_fewestOff 141 = .ok (.ishr, 1) := by decide +kernel
theorem dX4_fewestOff_142 : decode cX4_fewestOff 142 = .ok (.iconst 1, 1) := by decide +kernel
theorem dX4_fewestOff_143 : decode cX4_fewestOff 143 = .ok (.iand, 1) := by decide +kernel
theorem dX4_fewestOff_144 : decode cX4_fewestOff 144 = .ok (.iconst 1, 1) := by decide +kernel
theorem dX4_fewestOff_145 : decode cX4_fewestOff 145 = .ok (.if_icmp .ne 64, 3) := by decide +kernel
theorem dX4_fewestOff_148 : decode cX4_fewestOff 148 = .ok (.iload 5, 2) := by decide +kernel
theorem dX4_fewestOff_150 : decode cX4_fewestOff 150 = .ok (.bipush 12, 2) := by decide +kernel
theorem dX4_fewestOff_152 : decode cX4_fewestOff 152 = .ok (.imul, 1) := by decide +kernel
theorem dX4_fewestOff_153 : decode cX4_fewestOff 153 = .ok (.iload 11, 2) := by decide +kernel
theorem dX4_fewestOff_155 : decode cX4_fewestOff 155 = .ok (.iadd, 1) := by decide +kernel
theorem dX4_fewestOff_156 : decode cX4_fewestOff 156 = .ok (.istore 12, 2) := by decide +kernel
theorem dX4_fewestOff_158 : decode cX4_fewestOff 158 = .ok (.iload 7, 2) := by decide +kernel
theorem dX4_fewestOff_160 : decode cX4_fewestOff 160 = .ok (.aload_n 0, 1) := by decide +kernel
theorem dX4_fewestOff_161 : decode cX4_fewestOff 161 = .ok (.aload_n 2, 1) := by decide +kernel
theorem dX4_fewestOff_162 : decode cX4_fewestOff 162 = .ok (.getfield 61, 3) := by decide +kernel
theorem dX4_fewestOff_165 : decode cX4_fewestOff 165 = .ok (.iload 12, 2) := by decide +kernel
theorem dX4_fewestOff_167 : decode cX4_fewestOff 167 = .ok (.iaload, 1) := by decide +kernel
theorem dX4_fewestOff_168 : decode cX4_fewestOff 168 = .ok (.iload 10, 2) := by decide +kernel
theorem dX4_fewestOff_170 : decode cX4_fewestOff 170 = .ok (.iload 11, 2) := by decide +kernel
theorem dX4_fewestOff_172 : decode cX4_fewestOff 172 = .ok (.ishr, 1) := by decide +kernel
theorem dX4_fewestOff_173 : decode cX4_fewestOff 173 = .ok (.iconst 1, 1) := by decide +kernel
theorem dX4_fewestOff_174 : decode cX4_fewestOff 174 = .ok (.iand, 1) := by decide +kernel
theorem dX4_fewestOff_175 : decode cX4_fewestOff 175 = .ok (.iconst 1, 1) := by decide +kernel
theorem dX4_fewestOff_176 : decode cX4_fewestOff 176 = .ok (.if_icmp .ne 14, 3) := by decide +kernel
theorem dX4_fewestOff_179 : decode cX4_fewestOff 179 = .ok (.aload_n 2, 1) := by decide +kernel
theorem dX4_fewestOff_180 : decode cX4_fewestOff 180 = .ok (.getfield 64, 3) := by decide +kernel
theorem dX4_fewestOff_183 : decode cX4_fewestOff 183 = .ok (.iload 12, 2) := by decide +kernel
theorem dX4_fewestOff_185 : decode cX4_fewestOff 185 = .ok (.iaload, 1) := by decide +kernel
theorem dX4_fewestOff_186 : decode cX4_fewestOff 186 = .ok (.ineg, 1) := by decide +kernel
theorem dX4_fewestOff_187 : decode cX4_fewestOff 187 = .ok (.goto 10, 3) := by decide +kernel
theorem dX4_fewestOff_190 : decode cX4_fewestOff 190 = .ok (.aload_n 2, 1) := by decide +kernel
theorem dX4_fewestOff_191 : decode cX4_fewestOff 191 = .ok (.getfield 64, 3) := by decide +kernel
theorem dX4_fewestOff_194 : decode cX4_fewestOff 194 = .ok (.iload 12, 2) := by decide +kernel
theorem dX4_fewestOff_196 : decode cX4_fewestOff 196 = .ok (.iaload, 1) := by decide +kernel
theorem dX4_fewestOff_197 : decode cX4_fewestOff 197 = .ok (.invokevirtual 67, 3) := by decide +kernel
theorem dX4_fewestOff_200 : decode cX4_fewestOff 200 = .ok (.iadd, 1) := by decide +kernel
theorem dX4_fewestOff_201 : decode cX4_fewestOff 201 = .ok (.istore 7, 2) := by decide +kernel
theorem dX4_fewestOff_203 : decode cX4_fewestOff 203 = .ok (.iinc 11 1, 3) := by decide +kernel
theorem dX4_fewestOff_206 : decode cX4_fewestOff 206 = .ok (.goto (-81), 3) := by decide +kernel
theorem dX4_fewestOff_209 : decode cX4_fewestOff 209 = .ok (.iload 7, 2) := by decide +kernel
theorem dX4_fewestOff_211 : decode cX4_fewestOff 211 = .ok (.iload 4, 2) := by decide +kernel
theorem dX4_fewestOff_213 : decode cX4_fewestOff 213 = .ok (.if_icmp .gt 24, 3) := by decide +kernel
theorem dX4_fewestOff_216 : decode cX4_fewestOff 216 = .ok (.iload 10, 2) := by decide +kernel
theorem dX4_fewestOff_218 : decode cX4_fewestOff 218 = .ok (.invokestatic 70, 3) := by decide +kernel
theorem dX4_fewestOff_221 : decode cX4_fewestOff 221 = .ok (.iload 9, 2) := by decide +kernel
theorem dX4_fewestOff_223 : decode cX4_fewestOff 223 = .ok (.if_icmp .ge 14, 3) := by decide +kernel
theorem dX4_fewestOff_226 : decode cX4_fewestOff 226 = .ok (.iload 10, 2) := by decide +kernel
theorem dX4_fewestOff_228 : decode cX4_fewestOff 228 = .ok (.istore 8, 2) := by decide +kernel
theorem dX4_fewestOff_230 : decode cX4_fewestOff 230 = .ok (.iload 10, 2) := by decide +kernel
theorem dX4_fewestOff_232 : decode cX4_fewestOff 232 = .ok (.invokestatic 70, 3) := by decide +kernel
theorem dX4_fewestOff_235 : decode cX4_fewestOff 235 = .ok (.istore 9, 2) := by decide +kernel
theorem dX4_fewestOff_237 : decode cX4_fewestOff 237 = .ok (.iinc 10 1, 3) := by decide +kernel
theorem dX4_fewestOff_240 : decode cX4_fewestOff 240 = .ok (.goto (-127), 3) := by decide +kernel
theorem dX4_fewestOff_243 : decode cX4_fewestOff 243 = .ok (.iload 8, 2) := by decide +kernel
theorem dX4_fewestOff_245 : decode cX4_fewestOff 245 = .ok (.ireturn, 1) := by decide +kernel
theorem dX4_shift_0 : decode cX4_shift 0 = .ok (.aload_n 0, 1) := by decide +kernel
theorem dX4_shift_1 : decode cX4_shift 1 = .ok (.getfield 18, 3) := by decide +kernel
theorem dX4_shift_4 : decode cX4_shift 4 = .ok (.iload_n 1, 1) := by decide +kernel
theorem dX4_shift_5 : decode cX4_shift 5 = .ok (.iaload, 1) := by decide +kernel
theorem dX4_shift_6 : decode cX4_shift 6 = .ok (.invokestatic 55, 3) := by decide +kernel
theorem dX4_shift_9 : decode cX4_shift 9 = .ok (.istore_n 3, 1) := by decide +kernel
theorem dX4_shift_10 : decode cX4_shift 10 = .ok (.aload_n 0, 1) := by decide +kernel
theorem dX4_shift_11 : decode cX4_shift 11 = .ok (.getfield 18, 3) := by decide +kernel
theorem dX4_shift_14 : decode cX4_shift 14 = .ok (.iload_n 1, 1) := by decide +kernel
theorem dX4_shift_15 : decode cX4_shift 15 = .ok (.dup2, 1) := by decide +kernel
theorem dX4_shift_16 : decode cX4_shift 16 = .ok (.iaload, 1) := by decide +kernel
theorem dX4_shift_17 : decode cX4_shift 17 = .ok (.iload_n 2, 1) := by decide +kernel
theorem dX4_shift_18 : decode cX4_shift 18 = .ok (.iadd, 1) := by decide +kernel
theorem dX4_shift_19 : decode cX4_shift 19 = .ok (.iastore, 1) := by decide +kernel
theorem dX4_shift_20 : decode cX4_shift 20 = .ok (.aload_n 0, 1) := by decide +kernel
theorem dX4_shift_21 : decode cX4_shift 21 = .ok (.getfield 18, 3) := by decide +kernel
theorem dX4_shift_24 : decode cX4_shift 24 = .ok (.iload_n 1, 1) := by decide +kernel
theorem dX4_shift_25 : decode cX4_shift 25 = .ok (.iaload, 1) := by decide +kernel
theorem dX4_shift_26 : decode cX4_shift 26 = .ok (.invokestatic 55, 3) := by decide +kernel
theorem dX4_shift_29 : decode cX4_shift 29 = .ok (.iload_n 3, 1) := by decide +kernel
theorem dX4_shift_30 : decode cX4_shift 30 = .ok (.isub, 1) := by decide +kernel
theorem dX4_shift_31 : decode cX4_shift 31 = .ok (.ireturn, 1) := by decide +kernel
theorem dX4_pair_0 : decode cX4_pair 0 = .ok (.iconst 0, 1) := by decide +kernel
theorem dX4_pair_1 : decode cX4_pair 1 = .ok (.istore_n 3, 1) := by decide +kernel
theorem dX4_pair_2 : decode cX4_pair 2 = .ok (.iload_n 3, 1) := by decide +kernel
theorem dX4_pair_3 : decode cX4_pair 3 = .ok (.aload_n 1, 1) := by decide +kernel
theorem dX4_pair_4 : decode cX4_pair 4 = .ok (.getfield 75, 3) := by decide +kernel
theorem dX4_pair_7 : decode cX4_pair 7 = .ok (.if_icmp .ge 47, 3) := by decide +kernel
theorem dX4_pair_10 : decode cX4_pair 10 = .ok (.iconst 0, 1) := by decide +kernel
theorem dX4_pair_11 : decode cX4_pair 11 = .ok (.istore 4, 2) := by decide +kernel
theorem dX4_pair_13 : decode cX4_pair 13 = .ok (.iload 4, 2) := by decide +kernel
theorem dX4_pair_15 : decode cX4_pair 15 = .ok (.aload_n 1, 1) := by decide +kernel
theorem dX4_pair_16 : decode cX4_pair 16 = .ok (.getfield 79, 3) := by decide +kernel
theorem dX4_pair_19 : decode cX4_pair 19 = .ok (.if_icmp .ge 29, 3) := by decide +kernel
theorem dX4_pair_22 : decode cX4_pair 22 = .ok (.aload_n 0, 1) := by decide +kernel
theorem dX4_pair_23 : decode cX4_pair 23 = .ok (.getfield 21, 3) := by decide +kernel
theorem dX4_pair_26 : decode cX4_pair 26 = .ok (.iload_n 3, 1) := by decide +kernel
theorem dX4_pair_27 : decode cX4_pair 27 = .ok (.bipush 8, 2) := by decide +kernel
theorem dX4_pair_29 : decode cX4_pair 29 = .ok (.imul, 1) := by decide +kernel
theorem dX4_pair_30 : decode cX4_pair 30 = .ok (.iload 4, 2) := by decide +kernel
theorem dX4_pair_32 : decode cX4_pair 32 = .ok (.iadd, 1) := by decide +kernel
theorem dX4_pair_33 : decode cX4_pair 33 = .ok (.aload_n 2, 1) := by decide +kernel
theorem dX4_pair_34 : decode cX4_pair 34 = .ok (.aload_n 1, 1) := by decide +kernel
theorem dX4_pair_35 : decode cX4_pair 35 = .ok (.iload 4, 2) := by decide +kernel
theorem dX4_pair_37 : decode cX4_pair 37 = .ok (.iload_n 3, 1) := by decide +kernel
theorem dX4_pair_38 : decode cX4_pair 38 = .ok (.invokevirtual 82, 3) := by decide +kernel
theorem dX4_pair_41 : decode cX4_pair 41 = .ok (.iastore, 1) := by decide +kernel
theorem dX4_pair_42 : decode cX4_pair 42 = .ok (.iinc 4 1, 3) := by decide +kernel
theorem dX4_pair_45 : decode cX4_pair 45 = .ok (.goto (-32), 3) := by decide +kernel
theorem dX4_pair_48 : decode cX4_pair 48 = .ok (.iinc 3 1, 3) := by decide +kernel
theorem dX4_pair_51 : decode cX4_pair 51 = .ok (.goto (-49), 3) := by decide +kernel
theorem dX4_pair_54 : decode cX4_pair 54 = .ok (.iconst 1, 1) := by decide +kernel
theorem dX4_pair_55 : decode cX4_pair 55 = .ok (.aload_n 1, 1) := by decide +kernel
theorem dX4_pair_56 : decode cX4_pair 56 = .ok (.getfield 79, 3) := by decide +kernel
theorem dX4_pair_59 : decode cX4_pair 59 = .ok (.ishl, 1) := by decide +kernel
theorem dX4_pair_60 : decode cX4_pair 60 = .ok (.istore_n 3, 1) := by decide +kernel
theorem dX4_pair_61 : decode cX4_pair 61 = .ok (.aload_n 1, 1) := by decide +kernel
theorem dX4_pair_62 : decode cX4_pair 62 = .ok (.getfield 75, 3) := by decide +kernel
theorem dX4_pair_65 : decode cX4_pair 65 = .ok (.aload_n 1, 1) := by decide +kernel
theorem dX4_pair_66 : decode cX4_pair 66 = .ok (.getfield 79, 3) := by decide +kernel
theorem dX4_pair_69 : decode cX4_pair 69 = .ok (.invokestatic 86, 3) := by decide +kernel
theorem dX4_pair_72 : decode cX4_pair 72 = .ok (.istore 4, 2) := by decide +kernel
theorem dX4_pair_74 : decode cX4_pair 74 = .ok (.iconst 0, 1) := by decide +kernel
theorem dX4_pair_75 : decode cX4_pair 75 = .ok (.istore 5, 2) := by decide +kernel
