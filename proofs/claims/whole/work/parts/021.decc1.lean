theorem dX12_grown_57 : decode cX12_grown 57 = .ok (.iconst 1, 1) := by decide +kernel
theorem dX12_grown_58 : decode cX12_grown 58 = .ok (.iadd, 1) := by decide +kernel
theorem dX12_grown_59 : decode cX12_grown 59 = .ok (.putfield 319, 3) := by decide +kernel
theorem dX12_grown_62 : decode cX12_grown 62 = .ok (.aload_n 0, 1) := by decide +kernel
theorem dX12_grown_63 : decode cX12_grown 63 = .ok (.dup, 1) := by decide +kernel
theorem dX12_grown_64 : decode cX12_grown 64 = .ok (.getfield 252, 3) := by decide +kernel
theorem dX12_grown_67 : decode cX12_grown 67 = .ok (.iconst 1, 1) := by decide +kernel
theorem dX12_grown_68 : decode cX12_grown 68 = .ok (.iadd, 1) := by decide +kernel
theorem dX12_grown_69 : decode cX12_grown 69 = .ok (.putfield 252, 3) := by decide +kernel
theorem dX12_grown_72 : decode cX12_grown 72 = .ok (.return_, 1) := by decide +kernel
theorem dX12_dropHeld_0 : decode cX12_dropHeld 0 = .ok (.aload_n 0, 1) := by decide +kernel
theorem dX12_dropHeld_1 : decode cX12_dropHeld 1 = .ok (.dup, 1) := by decide +kernel
theorem dX12_dropHeld_2 : decode cX12_dropHeld 2 = .ok (.getfield 319, 3) := by decide +kernel
theorem dX12_dropHeld_5 : decode cX12_dropHeld 5 = .ok (.iconst 1, 1) := by decide +kernel
theorem dX12_dropHeld_6 : decode cX12_dropHeld 6 = .ok (.isub, 1) := by decide +kernel
theorem dX12_dropHeld_7 : decode cX12_dropHeld 7 = .ok (.putfield 319, 3) := by decide +kernel
theorem dX12_dropHeld_10 : decode cX12_dropHeld 10 = .ok (.aload_n 0, 1) := by decide +kernel
theorem dX12_dropHeld_11 : decode cX12_dropHeld 11 = .ok (.getfield 96, 3) := by decide +kernel
theorem dX12_dropHeld_14 : decode cX12_dropHeld 14 = .ok (.aload_n 0, 1) := by decide +kernel
theorem dX12_dropHeld_15 : decode cX12_dropHeld 15 = .ok (.getfield 319, 3) := by decide +kernel
theorem dX12_dropHeld_18 : decode cX12_dropHeld 18 = .ok (.iaload, 1) := by decide +kernel
theorem dX12_dropHeld_19 : decode cX12_dropHeld 19 = .ok (.ireturn, 1) := by decide +kernel
theorem dX12_bind_0 : decode cX12_bind 0 = .ok (.aload_n 0, 1) := by decide +kernel
theorem dX12_bind_1 : decode cX12_bind 1 = .ok (.getfield 322, 3) := by decide +kernel
theorem dX12_bind_4 : decode cX12_bind 4 = .ok (.ifCond .le 72, 3) := by decide +kernel
theorem dX12_bind_7 : decode cX12_bind 7 = .ok (.aload_n 0, 1) := by decide +kernel
theorem dX12_bind_8 : decode cX12_bind 8 = .ok (.getfield 93, 3) := by decide +kernel
theorem dX12_bind_11 : decode cX12_bind 11 = .ok (.aload_n 0, 1) := by decide +kernel
theorem dX12_bind_12 : decode cX12_bind 12 = .ok (.getfield 322, 3) := by decide +kernel
theorem dX12_bind_15 : decode cX12_bind 15 = .ok (.iconst 1, 1) := by decide +kernel
theorem dX12_bind_16 : decode cX12_bind 16 = .ok (.isub, 1) := by decide +kernel
theorem dX12_bind_17 : decode cX12_bind 17 = .ok (.iaload, 1) := by decide +kernel
theorem dX12_bind_18 : decode cX12_bind 18 = .ok (.invokestatic 325, 3) := by decide +kernel
theorem dX12_bind_21 : decode cX12_bind 21 = .ok (.iload_n 1, 1) := by decide +kernel
theorem dX12_bind_22 : decode cX12_bind 22 = .ok (.if_icmp .lt 54, 3) := by decide +kernel
theorem dX12_bind_25 : decode cX12_bind 25 = .ok (.aload_n 0, 1) := by decide +kernel
theorem dX12_bind_26 : decode cX12_bind 26 = .ok (.dup, 1) := by decide +kernel
theorem dX12_bind_27 : decode cX12_bind 27 = .ok (.getfield 322, 3) := by decide +kernel
theorem dX12_bind_30 : decode cX12_bind 30 = .ok (.iconst 1, 1) := by decide +kernel
theorem dX12_bind_31 : decode cX12_bind 31 = .ok (.isub, 1) := by decide +kernel
theorem dX12_bind_32 : decode cX12_bind 32 = .ok (.putfield 322, 3) := by decide +kernel
theorem dX12_bind_35 : decode cX12_bind 35 = .ok (.aload_n 0, 1) := by decide +kernel
theorem dX12_bind_36 : decode cX12_bind 36 = .ok (.getfield 93, 3) := by decide +kernel
theorem dX12_bind_39 : decode cX12_bind 39 = .ok (.aload_n 0, 1) := by decide +kernel
theorem dX12_bind_40 : decode cX12_bind 40 = .ok (.getfield 322, 3) := by decide +kernel
theorem dX12_bind_43 : decode cX12_bind 43 = .ok (.iaload, 1) := by decide +kernel
theorem dX12_bind_44 : decode cX12_bind 44 = .ok (.istore_n 2, 1) := by decide +kernel
theorem dX12_bind_45 : decode cX12_bind 45 = .ok (.iload_n 2, 1) := by decide +kernel
theorem dX12_bind_46 : decode cX12_bind 46 = .ok (.iconst 2, 1) := by decide +kernel
theorem dX12_bind_47 : decode cX12_bind 47 = .ok (.if_icmp .ne 7, 3) := by decide +kernel
theorem dX12_bind_50 : decode cX12_bind 50 = .ok (.iconst (-1), 1) := by decide +kernel
theorem dX12_bind_51 : decode cX12_bind 51 = .ok (.goto 7, 3) := by decide +kernel
theorem dX12_bind_54 : decode cX12_bind 54 = .ok (.aload_n 0, 1) := by decide +kernel
theorem dX12_bind_55 : decode cX12_bind 55 = .ok (.invokevirtual 329, 3) := by decide +kernel
theorem dX12_bind_58 : decode cX12_bind 58 = .ok (.istore_n 3, 1) := by decide +kernel
theorem dX12_bind_59 : decode cX12_bind 59 = .ok (.aload_n 0, 1) := by decide +kernel
theorem dX12_bind_60 : decode cX12_bind 60 = .ok (.invokevirtual 329, 3) := by decide +kernel
theorem dX12_bind_63 : decode cX12_bind 63 = .ok (.istore 4, 2) := by decide +kernel
theorem dX12_bind_65 : decode cX12_bind 65 = .ok (.aload_n 0, 1) := by decide +kernel
theorem dX12_bind_66 : decode cX12_bind 66 = .ok (.iload_n 2, 1) := by decide +kernel
theorem dX12_bind_67 : decode cX12_bind 67 = .ok (.iload 4, 2) := by decide +kernel
theorem dX12_bind_69 : decode cX12_bind 69 = .ok (.iload_n 3, 1) := by decide +kernel
theorem dX12_bind_70 : decode cX12_bind 70 = .ok (.invokevirtual 333, 3) := by decide +kernel
theorem dX12_bind_73 : decode cX12_bind 73 = .ok (.goto (-73), 3) := by decide +kernel
theorem dX12_bind_76 : decode cX12_bind 76 = .ok (.return_, 1) := by decide +kernel
theorem dX12_isCounted_0 : decode cX12_isCounted 0 = .ok (.aload_n 0, 1) := by decide +kernel
theorem dX12_isCounted_1 : decode cX12_isCounted 1 = .ok (.getfield 255, 3) := by decide +kernel
theorem dX12_isCounted_4 : decode cX12_isCounted 4 = .ok (.bipush 64, 2) := by decide +kernel
theorem dX12_isCounted_6 : decode cX12_isCounted 6 = .ok (.if_icmp .ne 9, 3) := by decide +kernel
theorem dX12_isCounted_9 : decode cX12_isCounted 9 = .ok (.aload_n 0, 1) := by decide +kernel
theorem dX12_isCounted_10 : decode cX12_isCounted 10 = .ok (.iconst 2, 1) := by decide +kernel
theorem dX12_isCounted_11 : decode cX12_isCounted 11 = .ok (.invokevirtual 217, 3) := by decide +kernel
theorem dX12_isCounted_14 : decode cX12_isCounted 14 = .ok (.ireturn, 1) := by decide +kernel
theorem dX12_isCounted_15 : decode cX12_isCounted 15 = .ok (.aload_n 0, 1) := by decide +kernel
theorem dX12_isCounted_16 : decode cX12_isCounted 16 = .ok (.dup, 1) := by decide +kernel
theorem dX12_isCounted_17 : decode cX12_isCounted 17 = .ok (.getfield 255, 3) := by decide +kernel
theorem dX12_isCounted_20 : decode cX12_isCounted 20 = .ok (.iconst 1, 1) := by decide +kernel
theorem dX12_isCounted_21 : decode cX12_isCounted 21 = .ok (.iadd, 1) := by decide +kernel
theorem dX12_isCounted_22 : decode cX12_isCounted 22 = .ok (.putfield 255, 3) := by decide +kernel
theorem dX12_isCounted_25 : decode cX12_isCounted 25 = .ok (.iconst 1, 1) := by decide +kernel
theorem dX12_isCounted_26 : decode cX12_isCounted 26 = .ok (.ireturn, 1) := by decide +kernel
theorem dX12_waitsFor_0 : decode cX12_waitsFor 0 = .ok (.aload_n 0, 1) := by decide +kernel
theorem dX12_waitsFor_1 : decode cX12_waitsFor 1 = .ok (.getfield 93, 3) := by decide +kernel
theorem dX12_waitsFor_4 : decode cX12_waitsFor 4 = .ok (.aload_n 0, 1) := by decide +kernel
theorem dX12_waitsFor_5 : decode cX12_waitsFor 5 = .ok (.getfield 322, 3) := by decide +kernel
theorem dX12_waitsFor_8 : decode cX12_waitsFor 8 = .ok (.iload_n 1, 1) := by decide +kernel
theorem dX12_waitsFor_9 : decode cX12_waitsFor 9 = .ok (.iastore, 1) := by decide +kernel
theorem dX12_waitsFor_10 : decode cX12_waitsFor 10 = .ok (.aload_n 0, 1) := by decide +kernel
theorem dX12_waitsFor_11 : decode cX12_waitsFor 11 = .ok (.dup, 1) := by decide +kernel
theorem dX12_waitsFor_12 : decode cX12_waitsFor 12 = .ok (.getfield 322, 3) := by decide +kernel
theorem dX12_waitsFor_15 : decode cX12_waitsFor 15 = .ok (.iconst 1, 1) := by decide +kernel
theorem dX12_waitsFor_16 : decode cX12_waitsFor 16 = .ok (.iadd, 1) := by decide +kernel
theorem dX12_waitsFor_17 : decode cX12_waitsFor 17 = .ok (.putfield 322, 3) := by decide +kernel
theorem dX12_waitsFor_20 : decode cX12_waitsFor 20 = .ok (.return_, 1) := by decide +kernel
theorem dX12_nameMet_0 : decode cX12_nameMet 0 = .ok (.aload_n 0, 1) := by decide +kernel
theorem dX12_nameMet_1 : decode cX12_nameMet 1 = .ok (.getfield 193, 3) := by decide +kernel
theorem dX12_nameMet_4 : decode cX12_nameMet 4 = .ok (.iconst 1, 1) := by decide +kernel
theorem dX12_nameMet_5 : decode cX12_nameMet 5 = .ok (.if_icmp .ne 22, 3) := by decide +kernel
theorem dX12_nameMet_8 : decode cX12_nameMet 8 = .ok (.aload_n 0, 1) := by decide +kernel
theorem dX12_nameMet_9 : decode cX12_nameMet 9 = .ok (.getfield 204, 3) := by decide +kernel
theorem dX12_nameMet_12 : decode cX12_nameMet 12 = .ok (.bipush 15, 2) := by decide +kernel
theorem dX12_nameMet_14 : decode cX12_nameMet 14 = .ok (.if_icmp .lt 13, 3) := by decide +kernel
theorem dX12_nameMet_17 : decode cX12_nameMet 17 = .ok (.aload_n 0, 1) := by decide +kernel
theorem dX12_nameMet_18 : decode cX12_nameMet 18 = .ok (.getfield 204, 3) := by decide +kernel
theorem dX12_nameMet_21 : decode cX12_nameMet 21 = .ok (.bipush 15, 2) := by decide +kernel
theorem dX12_nameMet_23 : decode cX12_nameMet 23 = .ok (.isub, 1) := by decide +kernel
theorem dX12_nameMet_24 : decode cX12_nameMet 24 = .ok (.goto 4, 3) := by decide +kernel
theorem dX12_nameMet_27 : decode cX12_nameMet 27 = .ok (.iconst (-1), 1) := by decide +kernel
theorem dX12_nameMet_28 : decode cX12_nameMet 28 = .ok (.ireturn, 1) := by decide +kernel
theorem dX12_leafRead_0 : decode cX12_leafRead 0 = .ok (.aload_n 0, 1) := by decide +kernel
theorem dX12_leafRead_1 : decode cX12_leafRead 1 = .ok (.bipush 40, 2) := by decide +kernel
theorem dX12_leafRead_3 : decode cX12_leafRead 3 = .ok (.invokevirtual 230, 3) := by decide +kernel
theorem dX12_leafRead_6 : decode cX12_leafRead 6 = .ok (.ifCond .eq 44, 3) := by decide +kernel
theorem dX12_leafRead_9 : decode cX12_leafRead 9 = .ok (.aload_n 0, 1) := by decide +kernel
theorem dX12_leafRead_10 : decode cX12_leafRead 10 = .ok (.getfield 337, 3) := by decide +kernel
theorem dX12_leafRead_13 : decode cX12_leafRead 13 = .ok (.bipush 8, 2) := by decide +kernel
theorem dX12_leafRead_15 : decode cX12_leafRead 15 = .ok (.if_icmp .ne 9, 3) := by decide +kernel
theorem dX12_leafRead_18 : decode cX12_leafRead 18 = .ok (.aload_n 0, 1) := by decide +kernel
theorem dX12_leafRead_19 : decode cX12_leafRead 19 = .ok (.iconst 2, 1) := by decide +kernel
theorem dX12_leafRead_20 : decode cX12_leafRead 20 = .ok (.invokevirtual 217, 3) := by decide +kernel
theorem dX12_leafRead_23 : decode cX12_leafRead 23 = .ok (.ireturn, 1) := by decide +kernel
theorem dX12_leafRead_24 : decode cX12_leafRead 24 = .ok (.aload_n 0, 1) := by decide +kernel
theorem dX12_leafRead_25 : decode cX12_leafRead 25 = .ok (.dup, 1) := by decide +kernel
theorem dX12_leafRead_26 : decode cX12_leafRead 26 = .ok (.getfield 337, 3) := by decide +kernel
theorem dX12_leafRead_29 : decode cX12_leafRead 29 = .ok (.iconst 1, 1) := by decide +kernel
theorem dX12_leafRead_30 : decode cX12_leafRead 30 = .ok (.iadd, 1) := by decide +kernel
theorem dX12_leafRead_31 : decode cX12_leafRead 31 = .ok (.putfield 337, 3) := by decide +kernel
theorem dX12_leafRead_34 : decode cX12_leafRead 34 = .ok (.aload_n 0, 1) := by decide +kernel
theorem dX12_leafRead_35 : decode cX12_leafRead 35 = .ok (.iconst 0, 1) := by decide +kernel
theorem dX12_leafRead_36 : decode cX12_leafRead 36 = .ok (.invokevirtual 340, 3) := by decide +kernel
theorem dX12_leafRead_39 : decode cX12_leafRead 39 = .ok (.aload_n 0, 1) := by decide +kernel
theorem dX12_leafRead_40 : decode cX12_leafRead 40 = .ok (.iconst 1, 1) := by decide +kernel
theorem dX12_leafRead_41 : decode cX12_leafRead 41 = .ok (.putfield 344, 3) := by decide +kernel
theorem dX12_leafRead_44 : decode cX12_leafRead 44 = .ok (.aload_n 0, 1) := by decide +kernel
theorem dX12_leafRead_45 : decode cX12_leafRead 45 = .ok (.invokevirtual 227, 3) := by decide +kernel
theorem dX12_leafRead_48 : decode cX12_leafRead 48 = .ok (.iconst 1, 1) := by decide +kernel
theorem dX12_leafRead_49 : decode cX12_leafRead 49 = .ok (.ireturn, 1) := by decide +kernel
theorem dX12_leafRead_50 : decode cX12_leafRead 50 = .ok (.aload_n 0, 1) := by decide +kernel
theorem dX12_leafRead_51 : decode cX12_leafRead 51 = .ok (.bipush 14, 2) := by decide +kernel
theorem dX12_leafRead_53 : decode cX12_leafRead 53 = .ok (.invokevirtual 348, 3) := by decide +kernel
theorem dX12_leafRead_56 : decode cX12_leafRead 56 = .ok (.ifCond .eq 30, 3) := by decide +kernel
theorem dX12_leafRead_59 : decode cX12_leafRead 59 = .ok (.aload_n 0, 1) := by decide +kernel
theorem dX12_leafRead_60 : decode cX12_leafRead 60 = .ok (.getfield 344, 3) := by decide +kernel
theorem dX12_leafRead_63 : decode cX12_leafRead 63 = .ok (.ifCond .eq 23, 3) := by decide +kernel
theorem dX12_leafRead_66 : decode cX12_leafRead 66 = .ok (.aload_n 0, 1) := by decide +kernel
theorem dX12_leafRead_67 : decode cX12_leafRead 67 = .ok (.invokevirtual 351, 3) := by decide +kernel
theorem dX12_leafRead_70 : decode cX12_leafRead 70 = .ok (.ifCond .ne 5, 3) := by decide +kernel
theorem dX12_leafRead_73 : decode cX12_leafRead 73 = .ok (.iconst 0, 1) := by decide +kernel
theorem dX12_leafRead_74 : decode cX12_leafRead 74 = .ok (.ireturn, 1) := by decide +kernel
theorem dX12_leafRead_75 : decode cX12_leafRead 75 = .ok (.aload_n 0, 1) := by decide +kernel
theorem dX12_leafRead_76 : decode cX12_leafRead 76 = .ok (.iconst 2, 1) := by decide +kernel
theorem dX12_leafRead_77 : decode cX12_leafRead 77 = .ok (.invokevirtual 340, 3) := by decide +kernel
theorem dX12_leafRead_80 : decode cX12_leafRead 80 = .ok (.aload_n 0, 1) := by decide +kernel
theorem dX12_leafRead_81 : decode cX12_leafRead 81 = .ok (.invokevirtual 227, 3) := by decide +kernel
theorem dX12_leafRead_84 : decode cX12_leafRead 84 = .ok (.iconst 1, 1) := by decide +kernel
theorem dX12_leafRead_85 : decode cX12_leafRead 85 = .ok (.ireturn, 1) := by decide +kernel
theorem dX12_leafRead_86 : decode cX12_leafRead 86 = .ok (.aload_n 0, 1) := by decide +kernel
theorem dX12_leafRead_87 : decode cX12_leafRead 87 = .ok (.invokevirtual 354, 3) := by decide +kernel
theorem dX12_leafRead_90 : decode cX12_leafRead 90 = .ok (.istore_n 1, 1) := by decide +kernel
theorem dX12_leafRead_91 : decode cX12_leafRead 91 = .ok (.iload_n 1, 1) := by decide +kernel
theorem dX12_leafRead_92 : decode cX12_leafRead 92 = .ok (.ifCond .ge 17, 3) := by decide +kernel
theorem dX12_leafRead_95 : decode cX12_leafRead 95 = .ok (.aload_n 0, 1) := by decide +kernel
theorem dX12_leafRead_96 : decode cX12_leafRead 96 = .ok (.getfield 193, 3) := by decide +kernel
theorem dX12_leafRead_99 : decode cX12_leafRead 99 = .ok (.iconst 3, 1) := by decide +kernel
theorem dX12_leafRead_100 : decode cX12_leafRead 100 = .ok (.if_icmp .eq 9, 3) := by decide +kernel
theorem dX12_leafRead_103 : decode cX12_leafRead 103 = .ok (.aload_n 0, 1) := by decide +kernel
theorem dX12_leafRead_104 : decode cX12_leafRead 104 = .ok (.iconst 1, 1) := by decide +kernel
theorem dX12_leafRead_105 : decode cX12_leafRead 105 = .ok (.invokevirtual 217, 3) := by decide +kernel
theorem dX12_leafRead_108 : decode cX12_leafRead 108 = .ok (.ireturn, 1) := by decide +kernel
theorem dX12_leafRead_109 : decode cX12_leafRead 109 = .ok (.iload_n 1, 1) := by decide +kernel
theorem dX12_leafRead_110 : decode cX12_leafRead 110 = .ok (.ifCond .ge 19, 3) := by decide +kernel
theorem dX12_leafRead_113 : decode cX12_leafRead 113 = .ok (.aload_n 0, 1) := by decide +kernel
theorem dX12_leafRead_114 : decode cX12_leafRead 114 = .ok (.getfield 204, 3) := by decide +kernel
theorem dX12_leafRead_117 : decode cX12_leafRead 117 = .ok (.sipush 9999, 3) := by decide +kernel
theorem dX12_leafRead_120 : decode cX12_leafRead 120 = .ok (.if_icmp .le 9, 3) := by decide +kernel
theorem dX12_leafRead_123 : decode cX12_leafRead 123 = .ok (.aload_n 0, 1) := by decide +kernel
theorem dX12_leafRead_124 : decode cX12_leafRead 124 = .ok (.iconst 2, 1) := by decide +kernel
theorem dX12_leafRead_125 : decode cX12_leafRead 125 = .ok (.invokevirtual 217, 3) := by decide +kernel
theorem dX12_leafRead_128 : decode cX12_leafRead 128 = .ok (.ireturn, 1) := by decide +kernel
theorem dX12_leafRead_129 : decode cX12_leafRead 129 = .ok (.aload_n 0, 1) := by decide +kernel
theorem dX12_leafRead_130 : decode cX12_leafRead 130 = .ok (.invokevirtual 351, 3) := by decide +kernel
theorem dX12_leafRead_133 : decode cX12_leafRead 133 = .ok (.ifCond .ne 5, 3) := by decide +kernel
theorem dX12_leafRead_136 : decode cX12_leafRead 136 = .ok (.iconst 0, 1) := by decide +kernel
theorem dX12_leafRead_137 : decode cX12_leafRead 137 = .ok (.ireturn, 1) := by decide +kernel
theorem dX12_leafRead_138 : decode cX12_leafRead 138 = .ok (.aload_n 0, 1) := by decide +kernel
theorem dX12_leafRead_139 : decode cX12_leafRead 139 = .ok (.iload_n 1, 1) := by decide +kernel
theorem dX12_leafRead_140 : decode cX12_leafRead 140 = .ok (.ifCond .lt 7, 3) := by decide +kernel
theorem dX12_leafRead_143 : decode cX12_leafRead 143 = .ok (.iconst 1, 1) := by decide +kernel
theorem dX12_leafRead_144 : decode cX12_leafRead 144 = .ok (.goto 4, 3) := by decide +kernel
theorem dX12_leafRead_147 : decode cX12_leafRead 147 = .ok (.iconst 0, 1) := by decide +kernel
theorem dX12_leafRead_148 : decode cX12_leafRead 148 = .ok (.iload_n 1, 1) := by decide +kernel
theorem dX12_leafRead_149 : decode cX12_leafRead 149 = .ok (.ifCond .lt 7, 3) := by decide +kernel
theorem dX12_leafRead_152 : decode cX12_leafRead 152 = .ok (.iload_n 1, 1) := by decide +kernel
theorem dX12_leafRead_153 : decode cX12_leafRead 153 = .ok (.goto 7, 3) := by decide +kernel
theorem dX12_leafRead_156 : decode cX12_leafRead 156 = .ok (.aload_n 0, 1) := by decide +kernel
theorem dX12_leafRead_157 : decode cX12_leafRead 157 = .ok (.getfield 204, 3) := by decide +kernel
theorem dX12_leafRead_160 : decode cX12_leafRead 160 = .ok (.iconst 0, 1) := by decide +kernel
theorem dX12_leafRead_161 : decode cX12_leafRead 161 = .ok (.invokevirtual 333, 3) := by decide +kernel
theorem dX12_leafRead_164 : decode cX12_leafRead 164 = .ok (.aload_n 0, 1) := by decide +kernel
theorem dX12_leafRead_165 : decode cX12_leafRead 165 = .ok (.iconst 0, 1) := by decide +kernel
theorem dX12_leafRead_166 : decode cX12_leafRead 166 = .ok (.putfield 357, 3) := by decide +kernel
theorem dX12_leafRead_169 : decode cX12_leafRead 169 = .ok (.aload_n 0, 1) := by decide +kernel
theorem dX12_leafRead_170 : decode cX12_leafRead 170 = .ok (.invokevirtual 227, 3) := by decide +kernel
theorem dX12_leafRead_173 : decode cX12_leafRead 173 = .ok (.iconst 1, 1) := by decide +kernel
theorem dX12_leafRead_174 : decode cX12_leafRead 174 = .ok (.ireturn, 1) := by decide +kernel
theorem dX12_signs_0 : decode cX12_signs 0 = .ok (.aload_n 0, 1) := by decide +kernel
theorem dX12_signs_1 : decode cX12_signs 1 = .ok (.bipush 41, 2) := by decide +kernel
theorem dX12_signs_3 : decode cX12_signs 3 = .ok (.invokevirtual 230, 3) := by decide +kernel
theorem dX12_signs_6 : decode cX12_signs 6 = .ok (.ifCond .eq 41, 3) := by decide +kernel
theorem dX12_signs_9 : decode cX12_signs 9 = .ok (.aload_n 0, 1) := by decide +kernel
theorem dX12_signs_10 : decode cX12_signs 10 = .ok (.getfield 337, 3) := by decide +kernel
theorem dX12_signs_13 : decode cX12_signs 13 = .ok (.ifCond .le 34, 3) := by decide +kernel
theorem dX12_signs_16 : decode cX12_signs 16 = .ok (.aload_n 0, 1) := by decide +kernel
theorem dX12_signs_17 : decode cX12_signs 17 = .ok (.iconst 1, 1) := by decide +kernel
theorem dX12_signs_18 : decode cX12_signs 18 = .ok (.invokevirtual 360, 3) := by decide +kernel
theorem dX12_signs_21 : decode cX12_signs 21 = .ok (.aload_n 0, 1) := by decide +kernel
theorem dX12_signs_22 : decode cX12_signs 22 = .ok (.dup, 1) := by decide +kernel
theorem dX12_signs_23 : decode cX12_signs 23 = .ok (.getfield 322, 3) := by decide +kernel
theorem dX12_signs_26 : decode cX12_signs 26 = .ok (.iconst 1, 1) := by decide +kernel
theorem dX12_signs_27 : decode cX12_signs 27 = .ok (.isub, 1) := by decide +kernel
theorem dX12_signs_28 : decode cX12_signs 28 = .ok (.putfield 322, 3) := by decide +kernel
theorem dX12_signs_31 : decode cX12_signs 31 = .ok (.aload_n 0, 1) := by decide +kernel
theorem dX12_signs_32 : decode cX12_signs 32 = .ok (.dup, 1) := by decide +kernel
theorem dX12_signs_33 : decode cX12_signs 33 = .ok (.getfield 337, 3) := by decide +kernel
theorem dX12_signs_36 : decode cX12_signs 36 = .ok (.iconst 1, 1) := by decide +kernel
theorem dX12_signs_37 : decode cX12_signs 37 = .ok (.isub, 1) := by decide +kernel
theorem dX12_signs_38 : decode cX12_signs 38 = .ok (.putfield 337, 3) := by decide +kernel
theorem dX12_signs_41 : decode cX12_signs 41 = .ok (.aload_n 0, 1) := by decide +kernel
theorem dX12_signs_42 : decode cX12_signs 42 = .ok (.invokevirtual 227, 3) := by decide +kernel
theorem dX12_signs_45 : decode cX12_signs 45 = .ok (.iconst 1, 1) := by decide +kernel
theorem dX12_signs_46 : decode cX12_signs 46 = .ok (.ireturn, 1) := by decide +kernel
theorem dX12_signs_47 : decode cX12_signs 47 = .ok (.aload_n 0, 1) := by decide +kernel
theorem dX12_signs_48 : decode cX12_signs 48 = .ok (.bipush 12, 2) := by decide +kernel
theorem dX12_signs_50 : decode cX12_signs 50 = .ok (.invokevirtual 348, 3) := by decide +kernel
theorem dX12_signs_53 : decode cX12_signs 53 = .ok (.ifCond .eq 7, 3) := by decide +kernel
theorem dX12_signs_56 : decode cX12_signs 56 = .ok (.iconst 3, 1) := by decide +kernel
theorem dX12_signs_57 : decode cX12_signs 57 = .ok (.goto 90, 3) := by decide +kernel
theorem dX12_signs_60 : decode cX12_signs 60 = .ok (.aload_n 0, 1) := by decide +kernel
theorem dX12_signs_61 : decode cX12_signs 61 = .ok (.bipush 13, 2) := by decide +kernel
theorem dX12_signs_63 : decode cX12_signs 63 = .ok (.invokevirtual 348, 3) := by decide +kernel
theorem dX12_signs_66 : decode cX12_signs 66 = .ok (.ifCond .eq 7, 3) := by decide +kernel
theorem dX12_signs_69 : decode cX12_signs 69 = .ok (.iconst 4, 1) := by decide +kernel
theorem dX12_signs_70 : decode cX12_signs 70 = .ok (.goto 77, 3) := by decide +kernel
theorem dX12_signs_73 : decode cX12_signs 73 = .ok (.aload_n 0, 1) := by decide +kernel
theorem dX12_signs_74 : decode cX12_signs 74 = .ok (.getfield 193, 3) := by decide +kernel
theorem dX12_signs_77 : decode cX12_signs 77 = .ok (.iconst 5, 1) := by decide +kernel
theorem dX12_signs_78 : decode cX12_signs 78 = .ok (.if_icmp .ne 12, 3) := by decide +kernel
theorem dX12_signs_81 : decode cX12_signs 81 = .ok (.iconst 5, 1) := by decide +kernel
theorem dX12_signs_82 : decode cX12_signs 82 = .ok (.aload_n 0, 1) := by decide +kernel
theorem dX12_signs_83 : decode cX12_signs 83 = .ok (.getfield 204, 3) := by decide +kernel
theorem dX12_signs_86 : decode cX12_signs 86 = .ok (.iadd, 1) := by decide +kernel
theorem dX12_signs_87 : decode cX12_signs 87 = .ok (.goto 60, 3) := by decide +kernel
theorem dX12_signs_90 : decode cX12_signs 90 = .ok (.aload_n 0, 1) := by decide +kernel
theorem dX12_signs_91 : decode cX12_signs 91 = .ok (.bipush 43, 2) := by decide +kernel
theorem dX12_signs_93 : decode cX12_signs 93 = .ok (.invokevirtual 230, 3) := by decide +kernel
theorem dX12_signs_96 : decode cX12_signs 96 = .ok (.ifCond .eq 8, 3) := by decide +kernel
theorem dX12_signs_99 : decode cX12_signs 99 = .ok (.bipush 11, 2) := by decide +kernel
theorem dX12_signs_101 : decode cX12_signs 101 = .ok (.goto 46, 3) := by decide +kernel
theorem dX12_signs_104 : decode cX12_signs 104 = .ok (.aload_n 0, 1) := by decide +kernel
theorem dX12_signs_105 : decode cX12_signs 105 = .ok (.bipush 45, 2) := by decide +kernel
theorem dX12_signs_107 : decode cX12_signs 107 = .ok (.invokevirtual 230, 3) := by decide +kernel
theorem dX12_signs_110 : decode cX12_signs 110 = .ok (.ifCond .eq 8, 3) := by decide +kernel
theorem dX12_signs_113 : decode cX12_signs 113 = .ok (.bipush 12, 2) := by decide +kernel
theorem dX12_signs_115 : decode cX12_signs 115 = .ok (.goto 32, 3) := by decide +kernel
theorem dX12_signs_118 : decode cX12_signs 118 = .ok (.aload_n 0, 1) := by decide +kernel
theorem dX12_signs_119 : decode cX12_signs 119 = .ok (.bipush 42, 2) := by decide +kernel
theorem dX12_signs_121 : decode cX12_signs 121 = .ok (.invokevirtual 230, 3) := by decide +kernel
theorem dX12_signs_124 : decode cX12_signs 124 = .ok (.ifCond .eq 8, 3) := by decide +kernel
theorem dX12_signs_127 : decode cX12_signs 127 = .ok (.bipush 13, 2) := by decide +kernel
theorem dX12_signs_129 : decode cX12_signs 129 = .ok (.goto 18, 3) := by decide +kernel
theorem dX12_signs_132 : decode cX12_signs 132 = .ok (.aload_n 0, 1) := by decide +kernel
theorem dX12_signs_133 : decode cX12_signs 133 = .ok (.bipush 47, 2) := by decide +kernel
theorem dX12_signs_135 : decode cX12_signs 135 = .ok (.invokevirtual 230, 3) := by decide +kernel
theorem dX12_signs_138 : decode cX12_signs 138 = .ok (.ifCond .eq 8, 3) := by decide +kernel
theorem dX12_signs_141 : decode cX12_signs 141 = .ok (.bipush 14, 2) := by decide +kernel
theorem dX12_signs_143 : decode cX12_signs 143 = .ok (.goto 4, 3) := by decide +kernel
theorem dX12_signs_146 : decode cX12_signs 146 = .ok (.iconst 0, 1) := by decide +kernel
theorem dX12_signs_147 : decode cX12_signs 147 = .ok (.istore_n 1, 1) := by decide +kernel
theorem dX12_signs_148 : decode cX12_signs 148 = .ok (.iload_n 1, 1) := by decide +kernel
theorem dX12_signs_149 : decode cX12_signs 149 = .ok (.ifCond .ne 9, 3) := by decide +kernel
theorem dX12_signs_152 : decode cX12_signs 152 = .ok (.aload_n 0, 1) := by decide +kernel
theorem dX12_signs_153 : decode cX12_signs 153 = .ok (.iconst 1, 1) := by decide +kernel
theorem dX12_signs_154 : decode cX12_signs 154 = .ok (.invokevirtual 217, 3) := by decide +kernel
theorem dX12_signs_157 : decode cX12_signs 157 = .ok (.ireturn, 1) := by decide +kernel
theorem dX12_signs_158 : decode cX12_signs 158 = .ok (.aload_n 0, 1) := by decide +kernel
theorem dX12_signs_159 : decode cX12_signs 159 = .ok (.iload_n 1, 1) := by decide +kernel
theorem dX12_signs_160 : decode cX12_signs 160 = .ok (.invokestatic 325, 3) := by decide +kernel
theorem dX12_signs_163 : decode cX12_signs 163 = .ok (.iconst 4, 1) := by decide +kernel
theorem dX12_signs_164 : decode cX12_signs 164 = .ok (.if_icmp .ne 7, 3) := by decide +kernel
theorem dX12_signs_167 : decode cX12_signs 167 = .ok (.iconst 5, 1) := by decide +kernel
theorem dX12_signs_168 : decode cX12_signs 168 = .ok (.goto 7, 3) := by decide +kernel
theorem dX12_signs_171 : decode cX12_signs 171 = .ok (.iload_n 1, 1) := by decide +kernel
theorem dX12_signs_172 : decode cX12_signs 172 = .ok (.invokestatic 325, 3) := by decide +kernel
theorem dX12_signs_175 : decode cX12_signs 175 = .ok (.invokevirtual 360, 3) := by decide +kernel
theorem dX12_signs_178 : decode cX12_signs 178 = .ok (.iload_n 1, 1) := by decide +kernel
theorem dX12_signs_179 : decode cX12_signs 179 = .ok (.invokestatic 325, 3) := by decide +kernel
theorem dX12_signs_182 : decode cX12_signs 182 = .ok (.iconst 4, 1) := by decide +kernel
theorem dX12_signs_183 : decode cX12_signs 183 = .ok (.if_icmp .ne 34, 3) := by decide +kernel
theorem dX12_signs_186 : decode cX12_signs 186 = .ok (.aload_n 0, 1) := by decide +kernel
theorem dX12_signs_187 : decode cX12_signs 187 = .ok (.getfield 322, 3) := by decide +kernel
theorem dX12_signs_190 : decode cX12_signs 190 = .ok (.ifCond .le 27, 3) := by decide +kernel
theorem dX12_signs_193 : decode cX12_signs 193 = .ok (.aload_n 0, 1) := by decide +kernel
theorem dX12_signs_194 : decode cX12_signs 194 = .ok (.getfield 93, 3) := by decide +kernel
theorem dX12_signs_197 : decode cX12_signs 197 = .ok (.aload_n 0, 1) := by decide +kernel
theorem dX12_signs_198 : decode cX12_signs 198 = .ok (.getfield 322, 3) := by decide +kernel
theorem dX12_signs_201 : decode cX12_signs 201 = .ok (.iconst 1, 1) := by decide +kernel
theorem dX12_signs_202 : decode cX12_signs 202 = .ok (.isub, 1) := by decide +kernel
theorem dX12_signs_203 : decode cX12_signs 203 = .ok (.iaload, 1) := by decide +kernel
theorem dX12_signs_204 : decode cX12_signs 204 = .ok (.invokestatic 325, 3) := by decide +kernel
theorem dX12_signs_207 : decode cX12_signs 207 = .ok (.iconst 4, 1) := by decide +kernel
theorem dX12_signs_208 : decode cX12_signs 208 = .ok (.if_icmp .ne 9, 3) := by decide +kernel
theorem dX12_signs_211 : decode cX12_signs 211 = .ok (.aload_n 0, 1) := by decide +kernel
theorem dX12_signs_212 : decode cX12_signs 212 = .ok (.iconst 1, 1) := by decide +kernel
theorem dX12_signs_213 : decode cX12_signs 213 = .ok (.invokevirtual 217, 3) := by decide +kernel
theorem dX12_signs_216 : decode cX12_signs 216 = .ok (.ireturn, 1) := by decide +kernel
theorem dX12_signs_217 : decode cX12_signs 217 = .ok (.aload_n 0, 1) := by decide +kernel
theorem dX12_signs_218 : decode cX12_signs 218 = .ok (.invokevirtual 351, 3) := by decide +kernel
theorem dX12_signs_221 : decode cX12_signs 221 = .ok (.ifCond .ne 5, 3) := by decide +kernel
theorem dX12_signs_224 : decode cX12_signs 224 = .ok (.iconst 0, 1) := by decide +kernel
theorem dX12_signs_225 : decode cX12_signs 225 = .ok (.ireturn, 1) := by decide +kernel
theorem dX12_signs_226 : decode cX12_signs 226 = .ok (.aload_n 0, 1) := by decide +kernel
theorem dX12_signs_227 : decode cX12_signs 227 = .ok (.iload_n 1, 1) := by decide +kernel
theorem dX12_signs_228 : decode cX12_signs 228 = .ok (.invokevirtual 340, 3) := by decide +kernel
theorem dX12_signs_231 : decode cX12_signs 231 = .ok (.aload_n 0, 1) := by decide +kernel
theorem dX12_signs_232 : decode cX12_signs 232 = .ok (.iconst 1, 1) := by decide +kernel
theorem dX12_signs_233 : decode cX12_signs 233 = .ok (.putfield 357, 3) := by decide +kernel
theorem dX12_signs_236 : decode cX12_signs 236 = .ok (.aload_n 0, 1) := by decide +kernel
theorem dX12_signs_237 : decode cX12_signs 237 = .ok (.iload_n 1, 1) := by decide +kernel
theorem dX12_signs_238 : decode cX12_signs 238 = .ok (.invokestatic 325, 3) := by decide +kernel
theorem dX12_signs_241 : decode cX12_signs 241 = .ok (.iconst 3, 1) := by decide +kernel
theorem dX12_signs_242 : decode cX12_signs 242 = .ok (.if_icmp .ge 7, 3) := by decide +kernel
theorem dX12_signs_245 : decode cX12_signs 245 = .ok (.iconst 1, 1) := by decide +kernel
theorem dX12_signs_246 : decode cX12_signs 246 = .ok (.goto 4, 3) := by decide +kernel
theorem dX12_signs_249 : decode cX12_signs 249 = .ok (.iconst 0, 1) := by decide +kernel
theorem dX12_signs_250 : decode cX12_signs 250 = .ok (.putfield 344, 3) := by decide +kernel
theorem dX12_signs_253 : decode cX12_signs 253 = .ok (.aload_n 0, 1) := by decide +kernel
theorem dX12_signs_254 : decode cX12_signs 254 = .ok (.invokevirtual 227, 3) := by decide +kernel
theorem dX12_signs_257 : decode cX12_signs 257 = .ok (.iconst 1, 1) := by decide +kernel
theorem dX12_signs_258 : decode cX12_signs 258 = .ok (.ireturn, 1) := by decide +kernel
theorem dX12_sumRead_0 : decode cX12_sumRead 0 = .ok (.aload_n 0, 1) := by decide +kernel
theorem dX12_sumRead_1 : decode cX12_sumRead 1 = .ok (.iconst 0, 1) := by decide +kernel
theorem dX12_sumRead_2 : decode cX12_sumRead 2 = .ok (.putfield 322, 3) := by decide +kernel
theorem dX12_sumRead_5 : decode cX12_sumRead 5 = .ok (.aload_n 0, 1) := by decide +kernel
theorem dX12_sumRead_6 : decode cX12_sumRead 6 = .ok (.iconst 0, 1) := by decide +kernel
theorem dX12_sumRead_7 : decode cX12_sumRead 7 = .ok (.putfield 319, 3) := by decide +kernel
theorem dX12_sumRead_10 : decode cX12_sumRead 10 = .ok (.aload_n 0, 1) := by decide +kernel
theorem dX12_sumRead_11 : decode cX12_sumRead 11 = .ok (.iconst 0, 1) := by decide +kernel
theorem dX12_sumRead_12 : decode cX12_sumRead 12 = .ok (.putfield 337, 3) := by decide +kernel
theorem dX12_sumRead_15 : decode cX12_sumRead 15 = .ok (.aload_n 0, 1) := by decide +kernel
theorem dX12_sumRead_16 : decode cX12_sumRead 16 = .ok (.iconst 1, 1) := by decide +kernel
theorem dX12_sumRead_17 : decode cX12_sumRead 17 = .ok (.putfield 357, 3) := by decide +kernel
theorem dX12_sumRead_20 : decode cX12_sumRead 20 = .ok (.aload_n 0, 1) := by decide +kernel
theorem dX12_sumRead_21 : decode cX12_sumRead 21 = .ok (.iconst 1, 1) := by decide +kernel
theorem dX12_sumRead_22 : decode cX12_sumRead 22 = .ok (.putfield 344, 3) := by decide +kernel
theorem dX12_sumRead_25 : decode cX12_sumRead 25 = .ok (.aload_n 0, 1) := by decide +kernel
theorem dX12_sumRead_26 : decode cX12_sumRead 26 = .ok (.bipush 59, 2) := by decide +kernel
theorem dX12_sumRead_28 : decode cX12_sumRead 28 = .ok (.invokevirtual 230, 3) := by decide +kernel
theorem dX12_sumRead_31 : decode cX12_sumRead 31 = .ok (.ifCond .eq 17, 3) := by decide +kernel
theorem dX12_sumRead_34 : decode cX12_sumRead 34 = .ok (.aload_n 0, 1) := by decide +kernel
theorem dX12_sumRead_35 : decode cX12_sumRead 35 = .ok (.getfield 357, 3) := by decide +kernel
theorem dX12_sumRead_38 : decode cX12_sumRead 38 = .ok (.ifCond .ne 10, 3) := by decide +kernel
theorem dX12_sumRead_41 : decode cX12_sumRead 41 = .ok (.aload_n 0, 1) := by decide +kernel
theorem dX12_sumRead_42 : decode cX12_sumRead 42 = .ok (.getfield 337, 3) := by decide +kernel
theorem dX12_sumRead_45 : decode cX12_sumRead 45 = .ok (.ifCond .le 29, 3) := by decide +kernel
theorem dX12_sumRead_48 : decode cX12_sumRead 48 = .ok (.aload_n 0, 1) := by decide +kernel
theorem dX12_sumRead_49 : decode cX12_sumRead 49 = .ok (.getfield 357, 3) := by decide +kernel
theorem dX12_sumRead_52 : decode cX12_sumRead 52 = .ok (.ifCond .eq 13, 3) := by decide +kernel
theorem dX12_sumRead_55 : decode cX12_sumRead 55 = .ok (.aload_n 0, 1) := by decide +kernel
theorem dX12_sumRead_56 : decode cX12_sumRead 56 = .ok (.invokevirtual 363, 3) := by decide +kernel
theorem dX12_sumRead_59 : decode cX12_sumRead 59 = .ok (.ifCond .eq 13, 3) := by decide +kernel
theorem dX12_sumRead_62 : decode cX12_sumRead 62 = .ok (.goto (-37), 3) := by decide +kernel
theorem dX12_sumRead_65 : decode cX12_sumRead 65 = .ok (.aload_n 0, 1) := by decide +kernel
theorem dX12_sumRead_66 : decode cX12_sumRead 66 = .ok (.invokevirtual 366, 3) := by decide +kernel
theorem dX12_sumRead_69 : decode cX12_sumRead 69 = .ok (.ifCond .ne (-44), 3) := by decide +kernel
theorem dX12_sumRead_72 : decode cX12_sumRead 72 = .ok (.iconst 0, 1) := by decide +kernel
theorem dX12_sumRead_73 : decode cX12_sumRead 73 = .ok (.ireturn, 1) := by decide +kernel
theorem dX12_sumRead_74 : decode cX12_sumRead 74 = .ok (.aload_n 0, 1) := by decide +kernel
theorem dX12_sumRead_75 : decode cX12_sumRead 75 = .ok (.iconst 1, 1) := by decide +kernel
theorem dX12_sumRead_76 : decode cX12_sumRead 76 = .ok (.invokevirtual 360, 3) := by decide +kernel
theorem dX12_sumRead_79 : decode cX12_sumRead 79 = .ok (.iconst 1, 1) := by decide +kernel
theorem dX12_sumRead_80 : decode cX12_sumRead 80 = .ok (.ireturn, 1) := by decide +kernel
theorem dX12_bounded_0 : decode cX12_bounded 0 = .ok (.aload_n 0, 1) := by decide +kernel
theorem dX12_bounded_1 : decode cX12_bounded 1 = .ok (.aload_n 0, 1) := by decide +kernel
theorem dX12_bounded_2 : decode cX12_bounded 2 = .ok (.getfield 369, 3) := by decide +kernel
theorem dX12_bounded_5 : decode cX12_bounded 5 = .ok (.ifCond .ne 19, 3) := by decide +kernel
theorem dX12_bounded_8 : decode cX12_bounded 8 = .ok (.lload_n 1, 1) := by decide +kernel
theorem dX12_bounded_9 : decode cX12_bounded 9 = .ok (.ldc2_w 372, 3) := by decide +kernel
theorem dX12_bounded_12 : decode cX12_bounded 12 = .ok (.lcmp, 1) := by decide +kernel
theorem dX12_bounded_13 : decode cX12_bounded 13 = .ok (.ifCond .gt 11, 3) := by decide +kernel
theorem dX12_bounded_16 : decode cX12_bounded 16 = .ok (.lload_n 1, 1) := by decide +kernel
theorem dX12_bounded_17 : decode cX12_bounded 17 = .ok (.ldc2_w 374, 3) := by decide +kernel
theorem dX12_bounded_20 : decode cX12_bounded 20 = .ok (.lcmp, 1) := by decide +kernel
theorem dX12_bounded_21 : decode cX12_bounded 21 = .ok (.ifCond .ge 7, 3) := by decide +kernel
theorem dX12_bounded_24 : decode cX12_bounded 24 = .ok (.iconst 1, 1) := by decide +kernel
theorem dX12_bounded_25 : decode cX12_bounded 25 = .ok (.goto 4, 3) := by decide +kernel
theorem dX12_bounded_28 : decode cX12_bounded 28 = .ok (.iconst 0, 1) := by decide +kernel
theorem dX12_bounded_29 : decode cX12_bounded 29 = .ok (.putfield 369, 3) := by decide +kernel
theorem dX12_bounded_32 : decode cX12_bounded 32 = .ok (.aload_n 0, 1) := by decide +kernel
theorem dX12_bounded_33 : decode cX12_bounded 33 = .ok (.getfield 369, 3) := by decide +kernel
theorem dX12_bounded_36 : decode cX12_bounded 36 = .ok (.ifCond .eq 7, 3) := by decide +kernel
theorem dX12_bounded_39 : decode cX12_bounded 39 = .ok (.lconst 0, 1) := by decide +kernel
theorem dX12_bounded_40 : decode cX12_bounded 40 = .ok (.goto 4, 3) := by decide +kernel
theorem dX12_bounded_43 : decode cX12_bounded 43 = .ok (.lload_n 1, 1) := by decide +kernel
theorem dX12_bounded_44 : decode cX12_bounded 44 = .ok (.lreturn, 1) := by decide +kernel
theorem dX12_compares_0 : decode cX12_compares 0 = .ok (.iload_n 0, 1) := by decide +kernel
theorem dX12_compares_1 : decode cX12_compares 1 = .ok (.tableswitch 95 5 9 #[35, 47, 59, 71, 83], 35) := by decide +kernel
theorem dX12_compares_36 : decode cX12_compares 36 = .ok (.lload_n 1, 1) := by decide +kernel
theorem dX12_compares_37 : decode cX12_compares 37 = .ok (.lload_n 3, 1) := by decide +kernel
theorem dX12_compares_38 : decode cX12_compares 38 = .ok (.lcmp, 1) := by decide +kernel
theorem dX12_compares_39 : decode cX12_compares 39 = .ok (.ifCond .ge 7, 3) := by decide +kernel
theorem dX12_compares_42 : decode cX12_compares 42 = .ok (.iconst 1, 1) := by decide +kernel
theorem dX12_compares_43 : decode cX12_compares 43 = .ok (.goto 4, 3) := by decide +kernel
theorem dX12_compares_46 : decode cX12_compares 46 = .ok (.iconst 0, 1) := by decide +kernel
theorem dX12_compares_47 : decode cX12_compares 47 = .ok (.ireturn, 1) := by decide +kernel
theorem dX12_compares_48 : decode cX12_compares 48 = .ok (.lload_n 1, 1) := by decide +kernel
theorem dX12_compares_49 : decode cX12_compares 49 = .ok (.lload_n 3, 1) := by decide +kernel
theorem dX12_compares_50 : decode cX12_compares 50 = .ok (.lcmp, 1) := by decide +kernel
theorem dX12_compares_51 : decode cX12_compares 51 = .ok (.ifCond .gt 7, 3) := by decide +kernel
theorem dX12_compares_54 : decode cX12_compares 54 = .ok (.iconst 1, 1) := by decide +kernel
theorem dX12_compares_55 : decode cX12_compares 55 = .ok (.goto 4, 3) := by decide +kernel
theorem dX12_compares_58 : decode cX12_compares 58 = .ok (.iconst 0, 1) := by decide +kernel
theorem dX12_compares_59 : decode cX12_compares 59 = .ok (.ireturn, 1) := by decide +kernel
theorem dX12_compares_60 : decode cX12_compares 60 = .ok (.lload_n 1, 1) := by decide +kernel
theorem dX12_compares_61 : decode cX12_compares 61 = .ok (.lload_n 3, 1) := by decide +kernel
theorem dX12_compares_62 : decode cX12_compares 62 = .ok (.lcmp, 1) := by decide +kernel
theorem dX12_compares_63 : decode cX12_compares 63 = .ok (.ifCond .ne 7, 3) := by decide +kernel
theorem dX12_compares_66 : decode cX12_compares 66 = .ok (.iconst 1, 1) := by decide +kernel
theorem dX12_compares_67 : decode cX12_compares 67 = .ok (.goto 4, 3) := by decide +kernel
theorem dX12_compares_70 : decode cX12_compares 70 = .ok (.iconst 0, 1) := by decide +kernel
theorem dX12_compares_71 : decode cX12_compares 71 = .ok (.ireturn, 1) := by decide +kernel
theorem dX12_compares_72 : decode cX12_compares 72 = .ok (.lload_n 1, 1) := by decide +kernel
theorem dX12_compares_73 : decode cX12_compares 73 = .ok (.lload_n 3, 1) := by decide +kernel
theorem dX12_compares_74 : decode cX12_compares 74 = .ok (.lcmp, 1) := by decide +kernel
theorem dX12_compares_75 : decode cX12_compares 75 = .ok (.ifCond .eq 7, 3) := by decide +kernel
theorem dX12_compares_78 : decode cX12_compares 78 = .ok (.iconst 1, 1) := by decide +kernel
theorem dX12_compares_79 : decode cX12_compares 79 = .ok (.goto 4, 3) := by decide +kernel
theorem dX12_compares_82 : decode cX12_compares 82 = .ok (.iconst 0, 1) := by decide +kernel
theorem dX12_compares_83 : decode cX12_compares 83 = .ok (.ireturn, 1) := by decide +kernel
theorem dX12_compares_84 : decode cX12_compares 84 = .ok (.lload_n 1, 1) := by decide +kernel
theorem dX12_compares_85 : decode cX12_compares 85 = .ok (.lload_n 3, 1) := by decide +kernel
theorem dX12_compares_86 : decode cX12_compares 86 = .ok (.lcmp, 1) := by decide +kernel
theorem dX12_compares_87 : decode cX12_compares 87 = .ok (.ifCond .lt 7, 3) := by decide +kernel
theorem dX12_compares_90 : decode cX12_compares 90 = .ok (.iconst 1, 1) := by decide +kernel
theorem dX12_compares_91 : decode cX12_compares 91 = .ok (.goto 4, 3) := by decide +kernel
theorem dX12_compares_94 : decode cX12_compares 94 = .ok (.iconst 0, 1) := by decide +kernel
theorem dX12_compares_95 : decode cX12_compares 95 = .ok (.ireturn, 1) := by decide +kernel
theorem dX12_compares_96 : decode cX12_compares 96 = .ok (.lload_n 1, 1) := by decide +kernel
theorem dX12_compares_97 : decode cX12_compares 97 = .ok (.lload_n 3, 1) := by decide +kernel
theorem dX12_compares_98 : decode cX12_compares 98 = .ok (.lcmp, 1) := by decide +kernel
theorem dX12_compares_99 : decode cX12_compares 99 = .ok (.ifCond .le 7, 3) := by decide +kernel
theorem dX12_compares_102 : decode cX12_compares 102 = .ok (.iconst 1, 1) := by decide +kernel
theorem dX12_compares_103 : decode cX12_compares 103 = .ok (.goto 4, 3) := by decide +kernel
theorem dX12_compares_106 : decode cX12_compares 106 = .ok (.iconst 0, 1) := by decide +kernel
theorem dX12_compares_107 : decode cX12_compares 107 = .ok (.ireturn, 1) := by decide +kernel
theorem dX12_times_0 : decode cX12_times 0 = .ok (.lload_n 1, 1) := by decide +kernel
theorem dX12_times_1 : decode cX12_times 1 = .ok (.lconst 0, 1) := by decide +kernel
theorem dX12_times_2 : decode cX12_times 2 = .ok (.lcmp, 1) := by decide +kernel
theorem dX12_times_3 : decode cX12_times 3 = .ok (.ifCond .eq 45, 3) := by decide +kernel
theorem dX12_times_6 : decode cX12_times 6 = .ok (.lload_n 3, 1) := by decide +kernel
theorem dX12_times_7 : decode cX12_times 7 = .ok (.lconst 0, 1) := by decide +kernel
theorem dX12_times_8 : decode cX12_times 8 = .ok (.lcmp, 1) := by decide +kernel
theorem dX12_times_9 : decode cX12_times 9 = .ok (.ifCond .eq 39, 3) := by decide +kernel
theorem dX12_times_12 : decode cX12_times 12 = .ok (.lload_n 3, 1) := by decide +kernel
theorem dX12_times_13 : decode cX12_times 13 = .ok (.lconst 0, 1) := by decide +kernel
theorem dX12_times_14 : decode cX12_times 14 = .ok (.lcmp, 1) := by decide +kernel
theorem dX12_times_15 : decode cX12_times 15 = .ok (.ifCond .ge 8, 3) := by decide +kernel
theorem dX12_times_18 : decode cX12_times 18 = .ok (.lload_n 3, 1) := by decide +kernel
theorem dX12_times_19 : decode cX12_times 19 = .ok (.lneg, 1) := by decide +kernel
theorem dX12_times_20 : decode cX12_times 20 = .ok (.goto 4, 3) := by decide +kernel
theorem dX12_times_23 : decode cX12_times 23 = .ok (.lload_n 3, 1) := by decide +kernel
theorem dX12_times_24 : decode cX12_times 24 = .ok (.ldc2_w 372, 3) := by decide +kernel
theorem dX12_times_27 : decode cX12_times 27 = .ok (.lload_n 1, 1) := by decide +kernel
theorem dX12_times_28 : decode cX12_times 28 = .ok (.lconst 0, 1) := by decide +kernel
theorem dX12_times_29 : decode cX12_times 29 = .ok (.lcmp, 1) := by decide +kernel
theorem dX12_times_30 : decode cX12_times 30 = .ok (.ifCond .ge 8, 3) := by decide +kernel
theorem dX12_times_33 : decode cX12_times 33 = .ok (.lload_n 1, 1) := by decide +kernel
theorem dX12_times_34 : decode cX12_times 34 = .ok (.lneg, 1) := by decide +kernel
theorem dX12_times_35 : decode cX12_times 35 = .ok (.goto 4, 3) := by decide +kernel
theorem dX12_times_38 : decode cX12_times 38 = .ok (.lload_n 1, 1) := by decide +kernel
theorem dX12_times_39 : decode cX12_times 39 = .ok (.ldiv, 1) := by decide +kernel
theorem dX12_times_40 : decode cX12_times 40 = .ok (.lcmp, 1) := by decide +kernel
theorem dX12_times_41 : decode cX12_times 41 = .ok (.ifCond .le 7, 3) := by decide +kernel
theorem dX12_times_44 : decode cX12_times 44 = .ok (.iconst 1, 1) := by decide +kernel
theorem dX12_times_45 : decode cX12_times 45 = .ok (.goto 4, 3) := by decide +kernel
theorem dX12_times_48 : decode cX12_times 48 = .ok (.iconst 0, 1) := by decide +kernel
theorem dX12_times_49 : decode cX12_times 49 = .ok (.istore 5, 2) := by decide +kernel
theorem dX12_times_51 : decode cX12_times 51 = .ok (.aload_n 0, 1) := by decide +kernel
theorem dX12_times_52 : decode cX12_times 52 = .ok (.aload_n 0, 1) := by decide +kernel
theorem dX12_times_53 : decode cX12_times 53 = .ok (.getfield 369, 3) := by decide +kernel
theorem dX12_times_56 : decode cX12_times 56 = .ok (.ifCond .ne 8, 3) := by decide +kernel
theorem dX12_times_59 : decode cX12_times 59 = .ok (.iload 5, 2) := by decide +kernel
theorem dX12_times_61 : decode cX12_times 61 = .ok (.ifCond .eq 7, 3) := by decide +kernel
theorem dX12_times_64 : decode cX12_times 64 = .ok (.iconst 1, 1) := by decide +kernel
theorem dX12_times_65 : decode cX12_times 65 = .ok (.goto 4, 3) := by decide +kernel
theorem dX12_times_68 : decode cX12_times 68 = .ok (.iconst 0, 1) := by decide +kernel
theorem dX12_times_69 : decode cX12_times 69 = .ok (.putfield 369, 3) := by decide +kernel
theorem dX12_times_72 : decode cX12_times 72 = .ok (.aload_n 0, 1) := by decide +kernel
theorem dX12_times_73 : decode cX12_times 73 = .ok (.getfield 369, 3) := by decide +kernel
theorem dX12_times_76 : decode cX12_times 76 = .ok (.ifCond .eq 7, 3) := by decide +kernel
theorem dX12_times_79 : decode cX12_times 79 = .ok (.lconst 0, 1) := by decide +kernel
theorem dX12_times_80 : decode cX12_times 80 = .ok (.goto 6, 3) := by decide +kernel
theorem dX12_times_83 : decode cX12_times 83 = .ok (.lload_n 1, 1) := by decide +kernel
theorem dX12_times_84 : decode cX12_times 84 = .ok (.lload_n 3, 1) := by decide +kernel
theorem dX12_times_85 : decode cX12_times 85 = .ok (.lmul, 1) := by decide +kernel
theorem dX12_times_86 : decode cX12_times 86 = .ok (.lreturn, 1) := by decide +kernel
theorem dX12_valueOf_0 : decode cX12_valueOf 0 = .ok (.aload_n 0, 1) := by decide +kernel
theorem dX12_valueOf_1 : decode cX12_valueOf 1 = .ok (.getfield 84, 3) := by decide +kernel
theorem dX12_valueOf_4 : decode cX12_valueOf 4 = .ok (.iload_n 1, 1) := by decide +kernel
theorem dX12_valueOf_5 : decode cX12_valueOf 5 = .ok (.iaload, 1) := by decide +kernel
theorem dX12_valueOf_6 : decode cX12_valueOf 6 = .ok (.ifCond .ne 11, 3) := by decide +kernel
theorem dX12_valueOf_9 : decode cX12_valueOf 9 = .ok (.aload_n 0, 1) := by decide +kernel
theorem dX12_valueOf_10 : decode cX12_valueOf 10 = .ok (.getfield 87, 3) := by decide +kernel
theorem dX12_valueOf_13 : decode cX12_valueOf 13 = .ok (.iload_n 1, 1) := by decide +kernel
theorem dX12_valueOf_14 : decode cX12_valueOf 14 = .ok (.iaload, 1) := by decide +kernel
theorem dX12_valueOf_15 : decode cX12_valueOf 15 = .ok (.i2l, 1) := by decide +kernel
theorem dX12_valueOf_16 : decode cX12_valueOf 16 = .ok (.lreturn, 1) := by decide +kernel
theorem dX12_valueOf_17 : decode cX12_valueOf 17 = .ok (.aload_n 0, 1) := by decide +kernel
theorem dX12_valueOf_18 : decode cX12_valueOf 18 = .ok (.getfield 84, 3) := by decide +kernel
theorem dX12_valueOf_21 : decode cX12_valueOf 21 = .ok (.iload_n 1, 1) := by decide +kernel
theorem dX12_valueOf_22 : decode cX12_valueOf 22 = .ok (.iaload, 1) := by decide +kernel
theorem dX12_valueOf_23 : decode cX12_valueOf 23 = .ok (.iconst 1, 1) := by decide +kernel
theorem dX12_valueOf_24 : decode cX12_valueOf 24 = .ok (.if_icmp .ne 15, 3) := by decide +kernel
theorem dX12_valueOf_27 : decode cX12_valueOf 27 = .ok (.aload_n 0, 1) := by decide +kernel
theorem dX12_valueOf_28 : decode cX12_valueOf 28 = .ok (.getfield 99, 3) := by decide +kernel
theorem dX12_valueOf_31 : decode cX12_valueOf 31 = .ok (.aload_n 0, 1) := by decide +kernel
theorem dX12_valueOf_32 : decode cX12_valueOf 32 = .ok (.getfield 87, 3) := by decide +kernel
theorem dX12_valueOf_35 : decode cX12_valueOf 35 = .ok (.iload_n 1, 1) := by decide +kernel
theorem dX12_valueOf_36 : decode cX12_valueOf 36 = .ok (.iaload, 1) := by decide +kernel
theorem dX12_valueOf_37 : decode cX12_valueOf 37 = .ok (.laload, 1) := by decide +kernel
theorem dX12_valueOf_38 : decode cX12_valueOf 38 = .ok (.lreturn, 1) := by decide +kernel
theorem dX12_valueOf_39 : decode cX12_valueOf 39 = .ok (.aload_n 0, 1) := by decide +kernel
theorem dX12_valueOf_40 : decode cX12_valueOf 40 = .ok (.getfield 103, 3) := by decide +kernel
theorem dX12_valueOf_43 : decode cX12_valueOf 43 = .ok (.aload_n 0, 1) := by decide +kernel
theorem dX12_valueOf_44 : decode cX12_valueOf 44 = .ok (.getfield 87, 3) := by decide +kernel
theorem dX12_valueOf_47 : decode cX12_valueOf 47 = .ok (.iload_n 1, 1) := by decide +kernel
theorem dX12_valueOf_48 : decode cX12_valueOf 48 = .ok (.iaload, 1) := by decide +kernel
theorem dX12_valueOf_49 : decode cX12_valueOf 49 = .ok (.laload, 1) := by decide +kernel
theorem dX12_valueOf_50 : decode cX12_valueOf 50 = .ok (.lstore_n 2, 1) := by decide +kernel
theorem dX12_valueOf_51 : decode cX12_valueOf 51 = .ok (.aload_n 0, 1) := by decide +kernel
theorem dX12_valueOf_52 : decode cX12_valueOf 52 = .ok (.getfield 84, 3) := by decide +kernel
theorem dX12_valueOf_55 : decode cX12_valueOf 55 = .ok (.iload_n 1, 1) := by decide +kernel
theorem dX12_valueOf_56 : decode cX12_valueOf 56 = .ok (.iaload, 1) := by decide +kernel
theorem dX12_valueOf_57 : decode cX12_valueOf 57 = .ok (.iconst 2, 1) := by decide +kernel
theorem dX12_valueOf_58 : decode cX12_valueOf 58 = .ok (.if_icmp .ne 15, 3) := by decide +kernel
theorem dX12_valueOf_61 : decode cX12_valueOf 61 = .ok (.lload_n 2, 1) := by decide +kernel
theorem dX12_valueOf_62 : decode cX12_valueOf 62 = .ok (.lconst 0, 1) := by decide +kernel
theorem dX12_valueOf_63 : decode cX12_valueOf 63 = .ok (.lcmp, 1) := by decide +kernel
theorem dX12_valueOf_64 : decode cX12_valueOf 64 = .ok (.ifCond .ne 7, 3) := by decide +kernel
theorem dX12_valueOf_67 : decode cX12_valueOf 67 = .ok (.lconst 1, 1) := by decide +kernel
theorem dX12_valueOf_68 : decode cX12_valueOf 68 = .ok (.goto 4, 3) := by decide +kernel
theorem dX12_valueOf_71 : decode cX12_valueOf 71 = .ok (.lconst 0, 1) := by decide +kernel
theorem dX12_valueOf_72 : decode cX12_valueOf 72 = .ok (.lreturn, 1) := by decide +kernel
theorem dX12_valueOf_73 : decode cX12_valueOf 73 = .ok (.aload_n 0, 1) := by decide +kernel
theorem dX12_valueOf_74 : decode cX12_valueOf 74 = .ok (.getfield 103, 3) := by decide +kernel
theorem dX12_valueOf_77 : decode cX12_valueOf 77 = .ok (.aload_n 0, 1) := by decide +kernel
theorem dX12_valueOf_78 : decode cX12_valueOf 78 = .ok (.getfield 90, 3) := by decide +kernel
theorem dX12_valueOf_81 : decode cX12_valueOf 81 = .ok (.iload_n 1, 1) := by decide +kernel
theorem dX12_valueOf_82 : decode cX12_valueOf 82 = .ok (.iaload, 1) := by decide +kernel
theorem dX12_valueOf_83 : decode cX12_valueOf 83 = .ok (.laload, 1) := by decide +kernel
theorem dX12_valueOf_84 : decode cX12_valueOf 84 = .ok (.lstore 4, 2) := by decide +kernel
theorem dX12_valueOf_86 : decode cX12_valueOf 86 = .ok (.aload_n 0, 1) := by decide +kernel
theorem dX12_valueOf_87 : decode cX12_valueOf 87 = .ok (.getfield 84, 3) := by decide +kernel
theorem dX12_valueOf_90 : decode cX12_valueOf 90 = .ok (.iload_n 1, 1) := by decide +kernel
theorem dX12_valueOf_91 : decode cX12_valueOf 91 = .ok (.iaload, 1) := by decide +kernel
theorem dX12_valueOf_92 : decode cX12_valueOf 92 = .ok (.tableswitch 167 3 14 #[64, 83, 167, 167, 167, 167, 167, 167, 102, 111, 120, 128], 64) := by decide +kernel
theorem dX12_valueOf_156 : decode cX12_valueOf 156 = .ok (.lload_n 2, 1) := by decide +kernel
theorem dX12_valueOf_157 : decode cX12_valueOf 157 = .ok (.lconst 0, 1) := by decide +kernel
theorem dX12_valueOf_158 : decode cX12_valueOf 158 = .ok (.lcmp, 1) := by decide +kernel
theorem dX12_valueOf_159 : decode cX12_valueOf 159 = .ok (.ifCond .eq 14, 3) := by decide +kernel
theorem dX12_valueOf_162 : decode cX12_valueOf 162 = .ok (.lload 4, 2) := by decide +kernel
theorem dX12_valueOf_164 : decode cX12_valueOf 164 = .ok (.lconst 0, 1) := by decide +kernel
theorem dX12_valueOf_165 : decode cX12_valueOf 165 = .ok (.lcmp, 1) := by decide +kernel
theorem dX12_valueOf_166 : decode cX12_valueOf 166 = .ok (.ifCond .eq 7, 3) := by decide +kernel
theorem dX12_valueOf_169 : decode cX12_valueOf 169 = .ok (.lconst 1, 1) := by decide +kernel
theorem dX12_valueOf_170 : decode cX12_valueOf 170 = .ok (.goto 4, 3) := by decide +kernel
theorem dX12_valueOf_173 : decode cX12_valueOf 173 = .ok (.lconst 0, 1) := by decide +kernel
theorem dX12_valueOf_174 : decode cX12_valueOf 174 = .ok (.lreturn, 1) := by decide +kernel
theorem dX12_valueOf_175 : decode cX12_valueOf 175 = .ok (.lload_n 2, 1) := by decide +kernel
theorem dX12_valueOf_176 : decode cX12_valueOf 176 = .ok (.lconst 0, 1) := by decide +kernel
theorem dX12_valueOf_177 : decode cX12_valueOf 177 = .ok (.lcmp, 1) := by decide +kernel
theorem dX12_valueOf_178 : decode cX12_valueOf 178 = .ok (.ifCond .ne 10, 3) := by decide +kernel
theorem dX12_valueOf_181 : decode cX12_valueOf 181 = .ok (.lload 4, 2) := by decide +kernel
theorem dX12_valueOf_183 : decode cX12_valueOf 183 = .ok (.lconst 0, 1) := by decide +kernel
theorem dX12_valueOf_184 : decode cX12_valueOf 184 = .ok (.lcmp, 1) := by decide +kernel
theorem dX12_valueOf_185 : decode cX12_valueOf 185 = .ok (.ifCond .eq 7, 3) := by decide +kernel
theorem dX12_valueOf_188 : decode cX12_valueOf 188 = .ok (.lconst 1, 1) := by decide +kernel
theorem dX12_valueOf_189 : decode cX12_valueOf 189 = .ok (.goto 4, 3) := by decide +kernel
theorem dX12_valueOf_192 : decode cX12_valueOf 192 = .ok (.lconst 0, 1) := by decide +kernel
theorem dX12_valueOf_193 : decode cX12_valueOf 193 = .ok (.lreturn, 1) := by decide +kernel
theorem dX12_valueOf_194 : decode cX12_valueOf 194 = .ok (.aload_n 0, 1) := by decide +kernel
theorem dX12_valueOf_195 : decode cX12_valueOf 195 = .ok (.lload_n 2, 1) := by decide +kernel
theorem dX12_valueOf_196 : decode cX12_valueOf 196 = .ok (.lload 4, 2) := by decide +kernel
theorem dX12_valueOf_198 : decode cX12_valueOf 198 = .ok (.ladd, 1) := by decide +kernel
theorem dX12_valueOf_199 : decode cX12_valueOf 199 = .ok (.invokevirtual 376, 3) := by decide +kernel
theorem dX12_valueOf_202 : decode cX12_valueOf 202 = .ok (.lreturn, 1) := by decide +kernel
theorem dX12_valueOf_203 : decode cX12_valueOf 203 = .ok (.aload_n 0, 1) := by decide +kernel
theorem dX12_valueOf_204 : decode cX12_valueOf 204 = .ok (.lload_n 2, 1) := by decide +kernel
theorem dX12_valueOf_205 : decode cX12_valueOf 205 = .ok (.lload 4, 2) := by decide +kernel
theorem dX12_valueOf_207 : decode cX12_valueOf 207 = .ok (.lsub, 1) := by decide +kernel
theorem dX12_valueOf_208 : decode cX12_valueOf 208 = .ok (.invokevirtual 376, 3) := by decide +kernel
theorem dX12_valueOf_211 : decode cX12_valueOf 211 = .ok (.lreturn, 1) := by decide +kernel
theorem dX12_valueOf_212 : decode cX12_valueOf 212 = .ok (.aload_n 0, 1) := by decide +kernel
theorem dX12_valueOf_213 : decode cX12_valueOf 213 = .ok (.lload_n 2, 1) := by decide +kernel
theorem dX12_valueOf_214 : decode cX12_valueOf 214 = .ok (.lload 4, 2) := by decide +kernel
theorem dX12_valueOf_216 : decode cX12_valueOf 216 = .ok (.invokevirtual 380, 3) := by decide +kernel
theorem dX12_valueOf_219 : decode cX12_valueOf 219 = .ok (.lreturn, 1) := by decide +kernel
theorem dX12_valueOf_220 : decode cX12_valueOf 220 = .ok (.aload_n 0, 1) := by decide +kernel
theorem dX12_valueOf_221 : decode cX12_valueOf 221 = .ok (.aload_n 0, 1) := by decide +kernel
theorem dX12_valueOf_222 : decode cX12_valueOf 222 = .ok (.getfield 369, 3) := by decide +kernel
theorem dX12_valueOf_225 : decode cX12_valueOf 225 = .ok (.ifCond .ne 10, 3) := by decide +kernel
theorem dX12_valueOf_228 : decode cX12_valueOf 228 = .ok (.lload 4, 2) := by decide +kernel
theorem dX12_valueOf_230 : decode cX12_valueOf 230 = .ok (.lconst 0, 1) := by decide +kernel
theorem dX12_valueOf_231 : decode cX12_valueOf 231 = .ok (.lcmp, 1) := by decide +kernel
theorem dX12_valueOf_232 : decode cX12_valueOf 232 = .ok (.ifCond .ne 7, 3) := by decide +kernel
theorem dX12_valueOf_235 : decode cX12_valueOf 235 = .ok (.iconst 1, 1) := by decide +kernel
theorem dX12_valueOf_236 : decode cX12_valueOf 236 = .ok (.goto 4, 3) := by decide +kernel
theorem dX12_valueOf_239 : decode cX12_valueOf 239 = .ok (.iconst 0, 1) := by decide +kernel
theorem dX12_valueOf_240 : decode cX12_valueOf 240 = .ok (.putfield 369, 3) := by decide +kernel
theorem dX12_valueOf_243 : decode cX12_valueOf 243 = .ok (.aload_n 0, 1) := by decide +kernel
theorem dX12_valueOf_244 : decode cX12_valueOf 244 = .ok (.getfield 369, 3) := by decide +kernel
theorem dX12_valueOf_247 : decode cX12_valueOf 247 = .ok (.ifCond .eq 7, 3) := by decide +kernel
theorem dX12_valueOf_250 : decode cX12_valueOf 250 = .ok (.lconst 0, 1) := by decide +kernel
theorem dX12_valueOf_251 : decode cX12_valueOf 251 = .ok (.goto 7, 3) := by decide +kernel
theorem dX12_valueOf_254 : decode cX12_valueOf 254 = .ok (.lload_n 2, 1) := by decide +kernel
theorem dX12_valueOf_255 : decode cX12_valueOf 255 = .ok (.lload 4, 2) := by decide +kernel
theorem dX12_valueOf_257 : decode cX12_valueOf 257 = .ok (.ldiv, 1) := by decide +kernel
theorem dX12_valueOf_258 : decode cX12_valueOf 258 = .ok (.lreturn, 1) := by decide +kernel
theorem dX12_valueOf_259 : decode cX12_valueOf 259 = .ok (.aload_n 0, 1) := by decide +kernel
theorem dX12_valueOf_260 : decode cX12_valueOf 260 = .ok (.getfield 84, 3) := by decide +kernel
theorem dX12_valueOf_263 : decode cX12_valueOf 263 = .ok (.iload_n 1, 1) := by decide +kernel
theorem dX12_valueOf_264 : decode cX12_valueOf 264 = .ok (.iaload, 1) := by decide +kernel
theorem dX12_valueOf_265 : decode cX12_valueOf 265 = .ok (.lload_n 2, 1) := by decide +kernel
theorem dX12_valueOf_266 : decode cX12_valueOf 266 = .ok (.lload 4, 2) := by decide +kernel
theorem dX12_valueOf_268 : decode cX12_valueOf 268 = .ok (.invokestatic 384, 3) := by decide +kernel
theorem dX12_valueOf_271 : decode cX12_valueOf 271 = .ok (.ifCond .eq 7, 3) := by decide +kernel
theorem dX12_valueOf_274 : decode cX12_valueOf 274 = .ok (.lconst 1, 1) := by decide +kernel
theorem dX12_valueOf_275 : decode cX12_valueOf 275 = .ok (.goto 4, 3) := by decide +kernel
theorem dX12_valueOf_278 : decode cX12_valueOf 278 = .ok (.lconst 0, 1) := by decide +kernel
theorem dX12_valueOf_279 : decode cX12_valueOf 279 = .ok (.lreturn, 1) := by decide +kernel
theorem dX12_begin_0 : decode cX12_begin 0 = .ok (.aload_n 0, 1) := by decide +kernel
theorem dX12_begin_1 : decode cX12_begin 1 = .ok (.iconst 0, 1) := by decide +kernel
theorem dX12_begin_2 : decode cX12_begin 2 = .ok (.invokevirtual 388, 3) := by decide +kernel
theorem dX12_begin_5 : decode cX12_begin 5 = .ok (.aload_n 0, 1) := by decide +kernel
theorem dX12_begin_6 : decode cX12_begin 6 = .ok (.aload_n 0, 1) := by decide +kernel
theorem dX12_begin_7 : decode cX12_begin 7 = .ok (.getfield 24, 3) := by decide +kernel
theorem dX12_begin_10 : decode cX12_begin 10 = .ok (.iconst 1, 1) := by decide +kernel
theorem dX12_begin_11 : decode cX12_begin 11 = .ok (.iaload, 1) := by decide +kernel
theorem dX12_begin_12 : decode cX12_begin 12 = .ok (.i2l, 1) := by decide +kernel
theorem dX12_begin_13 : decode cX12_begin 13 = .ok (.putfield 391, 3) := by decide +kernel
theorem dX12_begin_16 : decode cX12_begin 16 = .ok (.aload_n 0, 1) := by decide +kernel
theorem dX12_begin_17 : decode cX12_begin 17 = .ok (.invokevirtual 395, 3) := by decide +kernel
theorem dX12_begin_20 : decode cX12_begin 20 = .ok (.aload_n 0, 1) := by decide +kernel
theorem dX12_begin_21 : decode cX12_begin 21 = .ok (.iconst 0, 1) := by decide +kernel
theorem dX12_begin_22 : decode cX12_begin 22 = .ok (.putfield 398, 3) := by decide +kernel
theorem dX12_begin_25 : decode cX12_begin 25 = .ok (.aload_n 0, 1) := by decide +kernel
theorem dX12_begin_26 : decode cX12_begin 26 = .ok (.iconst (-1), 1) := by decide +kernel
theorem dX12_begin_27 : decode cX12_begin 27 = .ok (.putfield 145, 3) := by decide +kernel
theorem dX12_begin_30 : decode cX12_begin 30 = .ok (.aload_n 0, 1) := by decide +kernel
theorem dX12_begin_31 : decode cX12_begin 31 = .ok (.iconst 0, 1) := by decide +kernel
theorem dX12_begin_32 : decode cX12_begin 32 = .ok (.putfield 401, 3) := by decide +kernel
theorem dX12_begin_35 : decode cX12_begin 35 = .ok (.aload_n 0, 1) := by decide +kernel
theorem dX12_begin_36 : decode cX12_begin 36 = .ok (.iconst 0, 1) := by decide +kernel
theorem dX12_begin_37 : decode cX12_begin 37 = .ok (.putfield 404, 3) := by decide +kernel
theorem dX12_begin_40 : decode cX12_begin 40 = .ok (.return_, 1) := by decide +kernel
theorem dX12_bares_0 : decode cX12_bares 0 = .ok (.iconst 0, 1) := by decide +kernel
theorem dX12_bares_1 : decode cX12_bares 1 = .ok (.istore_n 3, 1) := by decide +kernel
theorem dX12_bares_2 : decode cX12_bares 2 = .ok (.iload_n 3, 1) := by decide +kernel
theorem dX12_bares_3 : decode cX12_bares 3 = .ok (.bipush 8, 2) := by decide +kernel
theorem dX12_bares_5 : decode cX12_bares 5 = .ok (.if_icmp .ge 31, 3) := by decide +kernel
theorem dX12_bares_8 : decode cX12_bares 8 = .ok (.aload_n 0, 1) := by decide +kernel
theorem dX12_bares_9 : decode cX12_bares 9 = .ok (.getfield 106, 3) := by decide +kernel
theorem dX12_bares_12 : decode cX12_bares 12 = .ok (.bipush 8, 2) := by decide +kernel
theorem dX12_bares_14 : decode cX12_bares 14 = .ok (.bipush 6, 2) := by decide +kernel
theorem dX12_bares_16 : decode cX12_bares 16 = .ok (.iload_n 1, 1) := by decide +kernel
theorem dX12_bares_17 : decode cX12_bares 17 = .ok (.imul, 1) := by decide +kernel
theorem dX12_bares_18 : decode cX12_bares 18 = .ok (.iload_n 2, 1) := by decide +kernel
theorem dX12_bares_19 : decode cX12_bares 19 = .ok (.iadd, 1) := by decide +kernel
theorem dX12_bares_20 : decode cX12_bares 20 = .ok (.imul, 1) := by decide +kernel
theorem dX12_bares_21 : decode cX12_bares 21 = .ok (.iload_n 3, 1) := by decide +kernel
theorem dX12_bares_22 : decode cX12_bares 22 = .ok (.iadd, 1) := by decide +kernel
theorem dX12_bares_23 : decode cX12_bares 23 = .ok (.aload_n 0, 1) := by decide +kernel
theorem dX12_bares_24 : decode cX12_bares 24 = .ok (.getfield 30, 3) := by decide +kernel
theorem dX12_bares_27 : decode cX12_bares 27 = .ok (.iload_n 2, 1) := by decide +kernel
theorem dX12_bares_28 : decode cX12_bares 28 = .ok (.iaload, 1) := by decide +kernel
theorem dX12_bares_29 : decode cX12_bares 29 = .ok (.iastore, 1) := by decide +kernel
theorem dX12_bares_30 : decode cX12_bares 30 = .ok (.iinc 3 1, 3) := by decide +kernel
theorem dX12_bares_33 : decode cX12_bares 33 = .ok (.goto (-31), 3) := by decide +kernel
theorem dX12_bares_36 : decode cX12_bares 36 = .ok (.aload_n 0, 1) := by decide +kernel
theorem dX12_bares_37 : decode cX12_bares 37 = .ok (.getfield 115, 3) := by decide +kernel
theorem dX12_bares_40 : decode cX12_bares 40 = .ok (.bipush 6, 2) := by decide +kernel
theorem dX12_bares_42 : decode cX12_bares 42 = .ok (.iload_n 1, 1) := by decide +kernel
theorem dX12_bares_43 : decode cX12_bares 43 = .ok (.imul, 1) := by decide +kernel
theorem dX12_bares_44 : decode cX12_bares 44 = .ok (.iload_n 2, 1) := by decide +kernel
theorem dX12_bares_45 : decode cX12_bares 45 = .ok (.iadd, 1) := by decide +kernel
theorem dX12_bares_46 : decode cX12_bares 46 = .ok (.iconst 0, 1) := by decide +kernel
theorem dX12_bares_47 : decode cX12_bares 47 = .ok (.iastore, 1) := by decide +kernel
theorem dX12_bares_48 : decode cX12_bares 48 = .ok (.return_, 1) := by decide +kernel
theorem dX12_atFirst_0 : decode cX12_atFirst 0 = .ok (.iconst 0, 1) := by decide +kernel
theorem dX12_atFirst_1 : decode cX12_atFirst 1 = .ok (.istore_n 2, 1) := by decide +kernel
theorem dX12_atFirst_2 : decode cX12_atFirst 2 = .ok (.iload_n 2, 1) := by decide +kernel
theorem dX12_atFirst_3 : decode cX12_atFirst 3 = .ok (.bipush 6, 2) := by decide +kernel
theorem dX12_atFirst_5 : decode cX12_atFirst 5 = .ok (.if_icmp .ge 15, 3) := by decide +kernel
theorem dX12_atFirst_8 : decode cX12_atFirst 8 = .ok (.aload_n 0, 1) := by decide +kernel
theorem dX12_atFirst_9 : decode cX12_atFirst 9 = .ok (.iload_n 1, 1) := by decide +kernel
theorem dX12_atFirst_10 : decode cX12_atFirst 10 = .ok (.iload_n 2, 1) := by decide +kernel
theorem dX12_atFirst_11 : decode cX12_atFirst 11 = .ok (.invokevirtual 407, 3) := by decide +kernel
theorem dX12_atFirst_14 : decode cX12_atFirst 14 = .ok (.iinc 2 1, 3) := by decide +kernel
theorem dX12_atFirst_17 : decode cX12_atFirst 17 = .ok (.goto (-15), 3) := by decide +kernel
theorem dX12_atFirst_20 : decode cX12_atFirst 20 = .ok (.iconst 0, 1) := by decide +kernel
theorem dX12_atFirst_21 : decode cX12_atFirst 21 = .ok (.istore_n 2, 1) := by decide +kernel
theorem dX12_atFirst_22 : decode cX12_atFirst 22 = .ok (.iload_n 2, 1) := by decide +kernel
theorem dX12_atFirst_23 : decode cX12_atFirst 23 = .ok (.bipush 8, 2) := by decide +kernel
theorem dX12_atFirst_25 : decode cX12_atFirst 25 = .ok (.if_icmp .ge 67, 3) := by decide +kernel
theorem dX12_atFirst_28 : decode cX12_atFirst 28 = .ok (.aload_n 0, 1) := by decide +kernel
theorem dX12_atFirst_29 : decode cX12_atFirst 29 = .ok (.getfield 118, 3) := by decide +kernel
theorem dX12_atFirst_32 : decode cX12_atFirst 32 = .ok (.bipush 8, 2) := by decide +kernel
theorem dX12_atFirst_34 : decode cX12_atFirst 34 = .ok (.iload_n 1, 1) := by decide +kernel
theorem dX12_atFirst_35 : decode cX12_atFirst 35 = .ok (.imul, 1) := by decide +kernel
theorem dX12_atFirst_36 : decode cX12_atFirst 36 = .ok (.iload_n 2, 1) := by decide +kernel
theorem dX12_atFirst_37 : decode cX12_atFirst 37 = .ok (.iadd, 1) := by decide +kernel
theorem dX12_atFirst_38 : decode cX12_atFirst 38 = .ok (.aload_n 0, 1) := by decide +kernel
theorem dX12_atFirst_39 : decode cX12_atFirst 39 = .ok (.getfield 36, 3) := by decide +kernel
theorem dX12_atFirst_42 : decode cX12_atFirst 42 = .ok (.iload_n 2, 1) := by decide +kernel
theorem dX12_atFirst_43 : decode cX12_atFirst 43 = .ok (.iaload, 1) := by decide +kernel
theorem dX12_atFirst_44 : decode cX12_atFirst 44 = .ok (.iastore, 1) := by decide +kernel
theorem dX12_atFirst_45 : decode cX12_atFirst 45 = .ok (.aload_n 0, 1) := by decide +kernel
theorem dX12_atFirst_46 : decode cX12_atFirst 46 = .ok (.getfield 121, 3) := by decide +kernel
theorem dX12_atFirst_49 : decode cX12_atFirst 49 = .ok (.bipush 8, 2) := by decide +kernel
theorem dX12_atFirst_51 : decode cX12_atFirst 51 = .ok (.iload_n 1, 1) := by decide +kernel
theorem dX12_atFirst_52 : decode cX12_atFirst 52 = .ok (.imul, 1) := by decide +kernel
theorem dX12_atFirst_53 : decode cX12_atFirst 53 = .ok (.iload_n 2, 1) := by decide +kernel
theorem dX12_atFirst_54 : decode cX12_atFirst 54 = .ok (.iadd, 1) := by decide +kernel
theorem dX12_atFirst_55 : decode cX12_atFirst 55 = .ok (.aload_n 0, 1) := by decide +kernel
theorem dX12_atFirst_56 : decode cX12_atFirst 56 = .ok (.getfield 45, 3) := by decide +kernel
theorem dX12_atFirst_59 : decode cX12_atFirst 59 = .ok (.iload_n 2, 1) := by decide +kernel
theorem dX12_atFirst_60 : decode cX12_atFirst 60 = .ok (.iaload, 1) := by decide +kernel
theorem dX12_atFirst_61 : decode cX12_atFirst 61 = .ok (.iastore, 1) := by decide +kernel
theorem dX12_atFirst_62 : decode cX12_atFirst 62 = .ok (.aload_n 0, 1) := by decide +kernel
theorem dX12_atFirst_63 : decode cX12_atFirst 63 = .ok (.getfield 124, 3) := by decide +kernel
theorem dX12_atFirst_66 : decode cX12_atFirst 66 = .ok (.bipush 8, 2) := by decide +kernel
theorem dX12_atFirst_68 : decode cX12_atFirst 68 = .ok (.iload_n 1, 1) := by decide +kernel
theorem dX12_atFirst_69 : decode cX12_atFirst 69 = .ok (.imul, 1) := by decide +kernel
theorem dX12_atFirst_70 : decode cX12_atFirst 70 = .ok (.iload_n 2, 1) := by decide +kernel
theorem dX12_atFirst_71 : decode cX12_atFirst 71 = .ok (.iadd, 1) := by decide +kernel
theorem dX12_atFirst_72 : decode cX12_atFirst 72 = .ok (.iconst 0, 1) := by decide +kernel
theorem dX12_atFirst_73 : decode cX12_atFirst 73 = .ok (.iastore, 1) := by decide +kernel
theorem dX12_atFirst_74 : decode cX12_atFirst 74 = .ok (.aload_n 0, 1) := by decide +kernel
theorem dX12_atFirst_75 : decode cX12_atFirst 75 = .ok (.getfield 127, 3) := by decide +kernel
theorem dX12_atFirst_78 : decode cX12_atFirst 78 = .ok (.bipush 8, 2) := by decide +kernel
theorem dX12_atFirst_80 : decode cX12_atFirst 80 = .ok (.iload_n 1, 1) := by decide +kernel
theorem dX12_atFirst_81 : decode cX12_atFirst 81 = .ok (.imul, 1) := by decide +kernel
theorem dX12_atFirst_82 : decode cX12_atFirst 82 = .ok (.iload_n 2, 1) := by decide +kernel
theorem dX12_atFirst_83 : decode cX12_atFirst 83 = .ok (.iadd, 1) := by decide +kernel
theorem dX12_atFirst_84 : decode cX12_atFirst 84 = .ok (.iconst 0, 1) := by decide +kernel
theorem dX12_atFirst_85 : decode cX12_atFirst 85 = .ok (.bastore, 1) := by decide +kernel
theorem dX12_atFirst_86 : decode cX12_atFirst 86 = .ok (.iinc 2 1, 3) := by decide +kernel
theorem dX12_atFirst_89 : decode cX12_atFirst 89 = .ok (.goto (-67), 3) := by decide +kernel
theorem dX12_atFirst_92 : decode cX12_atFirst 92 = .ok (.aload_n 0, 1) := by decide +kernel
theorem dX12_atFirst_93 : decode cX12_atFirst 93 = .ok (.getfield 130, 3) := by decide +kernel
theorem dX12_atFirst_96 : decode cX12_atFirst 96 = .ok (.iload_n 1, 1) := by decide +kernel
theorem dX12_atFirst_97 : decode cX12_atFirst 97 = .ok (.iconst 0, 1) := by decide +kernel
theorem dX12_atFirst_98 : decode cX12_atFirst 98 = .ok (.iastore, 1) := by decide +kernel
theorem dX12_atFirst_99 : decode cX12_atFirst 99 = .ok (.aload_n 0, 1) := by decide +kernel
theorem dX12_atFirst_100 : decode cX12_atFirst 100 = .ok (.getfield 133, 3) := by decide +kernel
theorem dX12_atFirst_103 : decode cX12_atFirst 103 = .ok (.iload_n 1, 1) := by decide +kernel
theorem dX12_atFirst_104 : decode cX12_atFirst 104 = .ok (.iconst 0, 1) := by decide +kernel
theorem dX12_atFirst_105 : decode cX12_atFirst 105 = .ok (.iastore, 1) := by decide +kernel
theorem dX12_atFirst_106 : decode cX12_atFirst 106 = .ok (.return_, 1) := by decide +kernel
theorem dX12_plainTried_0 : decode cX12_plainTried 0 = .ok (.aload_n 0, 1) := by decide +kernel
theorem dX12_plainTried_1 : decode cX12_plainTried 1 = .ok (.iconst 0, 1) := by decide +kernel
theorem dX12_plainTried_2 : decode cX12_plainTried 2 = .ok (.putfield 411, 3) := by decide +kernel
theorem dX12_plainTried_5 : decode cX12_plainTried 5 = .ok (.aload_n 0, 1) := by decide +kernel
theorem dX12_plainTried_6 : decode cX12_plainTried 6 = .ok (.iconst 0, 1) := by decide +kernel
theorem dX12_plainTried_7 : decode cX12_plainTried 7 = .ok (.putfield 414, 3) := by decide +kernel
theorem dX12_plainTried_10 : decode cX12_plainTried 10 = .ok (.aload_n 0, 1) := by decide +kernel
theorem dX12_plainTried_11 : decode cX12_plainTried 11 = .ok (.iconst 0, 1) := by decide +kernel
theorem dX12_plainTried_12 : decode cX12_plainTried 12 = .ok (.putfield 417, 3) := by decide +kernel
theorem dX12_plainTried_15 : decode cX12_plainTried 15 = .ok (.aload_n 0, 1) := by decide +kernel
theorem dX12_plainTried_16 : decode cX12_plainTried 16 = .ok (.iconst 0, 1) := by decide +kernel
theorem dX12_plainTried_17 : decode cX12_plainTried 17 = .ok (.putfield 420, 3) := by decide +kernel
theorem dX12_plainTried_20 : decode cX12_plainTried 20 = .ok (.aload_n 0, 1) := by decide +kernel
theorem dX12_plainTried_21 : decode cX12_plainTried 21 = .ok (.iconst 0, 1) := by decide +kernel
theorem dX12_plainTried_22 : decode cX12_plainTried 22 = .ok (.putfield 423, 3) := by decide +kernel
theorem dX12_plainTried_25 : decode cX12_plainTried 25 = .ok (.return_, 1) := by decide +kernel
theorem dX12_layTried_0 : decode cX12_layTried 0 = .ok (.iconst 0, 1) := by decide +kernel
theorem dX12_layTried_1 : decode cX12_layTried 1 = .ok (.istore_n 1, 1) := by decide +kernel
theorem dX12_layTried_2 : decode cX12_layTried 2 = .ok (.iload_n 1, 1) := by decide +kernel
theorem dX12_layTried_3 : decode cX12_layTried 3 = .ok (.bipush 48, 2) := by decide +kernel
theorem dX12_layTried_5 : decode cX12_layTried 5 = .ok (.if_icmp .ge 24, 3) := by decide +kernel
theorem dX12_layTried_8 : decode cX12_layTried 8 = .ok (.aload_n 0, 1) := by decide +kernel
theorem dX12_layTried_9 : decode cX12_layTried 9 = .ok (.getfield 106, 3) := by decide +kernel
theorem dX12_layTried_12 : decode cX12_layTried 12 = .ok (.bipush 48, 2) := by decide +kernel
theorem dX12_layTried_14 : decode cX12_layTried 14 = .ok (.iload_n 1, 1) := by decide +kernel
theorem dX12_layTried_15 : decode cX12_layTried 15 = .ok (.iadd, 1) := by decide +kernel
theorem dX12_layTried_16 : decode cX12_layTried 16 = .ok (.aload_n 0, 1) := by decide +kernel
theorem dX12_layTried_17 : decode cX12_layTried 17 = .ok (.getfield 106, 3) := by decide +kernel
theorem dX12_layTried_20 : decode cX12_layTried 20 = .ok (.iload_n 1, 1) := by decide +kernel
theorem dX12_layTried_21 : decode cX12_layTried 21 = .ok (.iaload, 1) := by decide +kernel
theorem dX12_layTried_22 : decode cX12_layTried 22 = .ok (.iastore, 1) := by decide +kernel
theorem dX12_layTried_23 : decode cX12_layTried 23 = .ok (.iinc 1 1, 3) := by decide +kernel
theorem dX12_layTried_26 : decode cX12_layTried 26 = .ok (.goto (-24), 3) := by decide +kernel
theorem dX12_layTried_29 : decode cX12_layTried 29 = .ok (.iconst 0, 1) := by decide +kernel
theorem dX12_layTried_30 : decode cX12_layTried 30 = .ok (.istore_n 1, 1) := by decide +kernel
theorem dX12_layTried_31 : decode cX12_layTried 31 = .ok (.iload_n 1, 1) := by decide +kernel
theorem dX12_layTried_32 : decode cX12_layTried 32 = .ok (.bipush 72, 2) := by decide +kernel
theorem dX12_layTried_34 : decode cX12_layTried 34 = .ok (.if_icmp .ge 39, 3) := by decide +kernel
theorem dX12_layTried_37 : decode cX12_layTried 37 = .ok (.aload_n 0, 1) := by decide +kernel
theorem dX12_layTried_38 : decode cX12_layTried 38 = .ok (.getfield 109, 3) := by decide +kernel
theorem dX12_layTried_41 : decode cX12_layTried 41 = .ok (.bipush 72, 2) := by decide +kernel
theorem dX12_layTried_43 : decode cX12_layTried 43 = .ok (.iload_n 1, 1) := by decide +kernel
theorem dX12_layTried_44 : decode cX12_layTried 44 = .ok (.iadd, 1) := by decide +kernel
theorem dX12_layTried_45 : decode cX12_layTried 45 = .ok (.aload_n 0, 1) := by decide +kernel
theorem dX12_layTried_46 : decode cX12_layTried 46 = .ok (.getfield 109, 3) := by decide +kernel
theorem dX12_layTried_49 : decode cX12_layTried 49 = .ok (.iload_n 1, 1) := by decide +kernel
theorem dX12_layTried_50 : decode cX12_layTried 50 = .ok (.iaload, 1) := by decide +kernel
theorem dX12_layTried_51 : decode cX12_layTried 51 = .ok (.iastore, 1) := by decide +kernel
theorem dX12_layTried_52 : decode cX12_layTried 52 = .ok (.aload_n 0, 1) := by decide +kernel
theorem dX12_layTried_53 : decode cX12_layTried 53 = .ok (.getfield 112, 3) := by decide +kernel
theorem dX12_layTried_56 : decode cX12_layTried 56 = .ok (.bipush 72, 2) := by decide +kernel
theorem dX12_layTried_58 : decode cX12_layTried 58 = .ok (.iload_n 1, 1) := by decide +kernel
theorem dX12_layTried_59 : decode cX12_layTried 59 = .ok (.iadd, 1) := by decide +kernel
theorem dX12_layTried_60 : decode cX12_layTried 60 = .ok (.aload_n 0, 1) := by decide +kernel
theorem dX12_layTried_61 : decode cX12_layTried 61 = .ok (.getfield 112, 3) := by decide +kernel
theorem dX12_layTried_64 : decode cX12_layTried 64 = .ok (.iload_n 1, 1) := by decide +kernel
theorem dX12_layTried_65 : decode cX12_layTried 65 = .ok (.iaload, 1) := by decide +kernel
theorem dX12_layTried_66 : decode cX12_layTried 66 = .ok (.iastore, 1) := by decide +kernel
theorem dX12_layTried_67 : decode cX12_layTried 67 = .ok (.iinc 1 1, 3) := by decide +kernel
theorem dX12_layTried_70 : decode cX12_layTried 70 = .ok (.goto (-39), 3) := by decide +kernel
theorem dX12_layTried_73 : decode cX12_layTried 73 = .ok (.iconst 0, 1) := by decide +kernel
theorem dX12_layTried_74 : decode cX12_layTried 74 = .ok (.istore_n 1, 1) := by decide +kernel
theorem dX12_layTried_75 : decode cX12_layTried 75 = .ok (.iload_n 1, 1) := by decide +kernel
theorem dX12_layTried_76 : decode cX12_layTried 76 = .ok (.bipush 6, 2) := by decide +kernel
theorem dX12_layTried_78 : decode cX12_layTried 78 = .ok (.if_icmp .ge 24, 3) := by decide +kernel
theorem dX12_layTried_81 : decode cX12_layTried 81 = .ok (.aload_n 0, 1) := by decide +kernel
theorem dX12_layTried_82 : decode cX12_layTried 82 = .ok (.getfield 115, 3) := by decide +kernel
theorem dX12_layTried_85 : decode cX12_layTried 85 = .ok (.bipush 6, 2) := by decide +kernel
theorem dX12_layTried_87 : decode cX12_layTried 87 = .ok (.iload_n 1, 1) := by decide +kernel
theorem dX12_layTried_88 : decode cX12_layTried 88 = .ok (.iadd, 1) := by decide +kernel
theorem dX12_layTried_89 : decode cX12_layTried 89 = .ok (.aload_n 0, 1) := by decide +kernel
theorem dX12_layTried_90 : decode cX12_layTried 90 = .ok (.getfield 115, 3) := by decide +kernel
theorem dX12_layTried_93 : decode cX12_layTried 93 = .ok (.iload_n 1, 1) := by decide +kernel
theorem dX12_layTried_94 : decode cX12_layTried 94 = .ok (.iaload, 1) := by decide +kernel
theorem dX12_layTried_95 : decode cX12_layTried 95 = .ok (.iastore, 1) := by decide +kernel
theorem dX12_layTried_96 : decode cX12_layTried 96 = .ok (.iinc 1 1, 3) := by decide +kernel
theorem dX12_layTried_99 : decode cX12_layTried 99 = .ok (.goto (-24), 3) := by decide +kernel
theorem dX12_layTried_102 : decode cX12_layTried 102 = .ok (.iconst 0, 1) := by decide +kernel
theorem dX12_layTried_103 : decode cX12_layTried 103 = .ok (.istore_n 1, 1) := by decide +kernel
theorem dX12_layTried_104 : decode cX12_layTried 104 = .ok (.iload_n 1, 1) := by decide +kernel
theorem dX12_layTried_105 : decode cX12_layTried 105 = .ok (.bipush 8, 2) := by decide +kernel
theorem dX12_layTried_107 : decode cX12_layTried 107 = .ok (.if_icmp .ge 69, 3) := by decide +kernel
theorem dX12_layTried_110 : decode cX12_layTried 110 = .ok (.aload_n 0, 1) := by decide +kernel
theorem dX12_layTried_111 : decode cX12_layTried 111 = .ok (.getfield 118, 3) := by decide +kernel
theorem dX12_layTried_114 : decode cX12_layTried 114 = .ok (.bipush 8, 2) := by decide +kernel
theorem dX12_layTried_116 : decode cX12_layTried 116 = .ok (.iload_n 1, 1) := by decide +kernel
theorem dX12_layTried_117 : decode cX12_layTried 117 = .ok (.iadd, 1) := by decide +kernel
theorem dX12_layTried_118 : decode cX12_layTried 118 = .ok (.aload_n 0, 1) := by decide +kernel
theorem dX12_layTried_119 : decode cX12_layTried 119 = .ok (.getfield 118, 3) := by decide +kernel
theorem dX12_layTried_122 : decode cX12_layTried 122 = .ok (.iload_n 1, 1) := by decide +kernel
theorem dX12_layTried_123 : decode cX12_layTried 123 = .ok (.iaload, 1) := by decide +kernel
theorem dX12_layTried_124 : decode cX12_layTried 124 = .ok (.iastore, 1) := by decide +kernel
theorem dX12_layTried_125 : decode cX12_layTried 125 = .ok (.aload_n 0, 1) := by decide +kernel
theorem dX12_layTried_126 : decode cX12_layTried 126 = .ok (.getfield 121, 3) := by decide +kernel
theorem dX12_layTried_129 : decode cX12_layTried 129 = .ok (.bipush 8, 2) := by decide +kernel
theorem dX12_layTried_131 : decode cX12_layTried 131 = .ok (.iload_n 1, 1) := by decide +kernel
theorem dX12_layTried_132 : decode cX12_layTried 132 = .ok (.iadd, 1) := by decide +kernel
theorem dX12_layTried_133 : decode cX12_layTried 133 = .ok (.aload_n 0, 1) := by decide +kernel
theorem dX12_layTried_134 : decode cX12_layTried 134 = .ok (.getfield 121, 3) := by decide +kernel
theorem dX12_layTried_137 : decode cX12_layTried 137 = .ok (.iload_n 1, 1) := by decide +kernel
theorem dX12_layTried_138 : decode cX12_layTried 138 = .ok (.iaload, 1) := by decide +kernel
theorem dX12_layTried_139 : decode cX12_layTried 139 = .ok (.iastore, 1) := by decide +kernel
theorem dX12_layTried_140 : decode cX12_layTried 140 = .ok (.aload_n 0, 1) := by decide +kernel
theorem dX12_layTried_141 : decode cX12_layTried 141 = .ok (.getfield 124, 3) := by decide +kernel
theorem dX12_layTried_144 : decode cX12_layTried 144 = .ok (.bipush 8, 2) := by decide +kernel
theorem dX12_layTried_146 : decode cX12_layTried 146 = .ok (.iload_n 1, 1) := by decide +kernel
theorem dX12_layTried_147 : decode cX12_layTried 147 = .ok (.iadd, 1) := by decide +kernel
theorem dX12_layTried_148 : decode cX12_layTried 148 = .ok (.aload_n 0, 1) := by decide +kernel
theorem dX12_layTried_149 : decode cX12_layTried 149 = .ok (.getfield 124, 3) := by decide +kernel
theorem dX12_layTried_152 : decode cX12_layTried 152 = .ok (.iload_n 1, 1) := by decide +kernel
theorem dX12_layTried_153 : decode cX12_layTried 153 = .ok (.iaload, 1) := by decide +kernel
theorem dX12_layTried_154 : decode cX12_layTried 154 = .ok (.iastore, 1) := by decide +kernel
theorem dX12_layTried_155 : decode cX12_layTried 155 = .ok (.aload_n 0, 1) := by decide +kernel
theorem dX12_layTried_156 : decode cX12_layTried 156 = .ok (.getfield 127, 3) := by decide +kernel
theorem dX12_layTried_159 : decode cX12_layTried 159 = .ok (.bipush 8, 2) := by decide +kernel
theorem dX12_layTried_161 : decode cX12_layTried 161 = .ok (.iload_n 1, 1) := by decide +kernel
theorem dX12_layTried_162 : decode cX12_layTried 162 = .ok (.iadd, 1) := by decide +kernel
theorem dX12_layTried_163 : decode cX12_layTried 163 = .ok (.aload_n 0, 1) := by decide +kernel
theorem dX12_layTried_164 : decode cX12_layTried 164 = .ok (.getfield 127, 3) := by decide +kernel
theorem dX12_layTried_167 : decode cX12_layTried 167 = .ok (.iload_n 1, 1) := by decide +kernel
theorem dX12_layTried_168 : decode cX12_layTried 168 = .ok (.baload, 1) := by decide +kernel
theorem dX12_layTried_169 : decode cX12_layTried 169 = .ok (.bastore, 1) := by decide +kernel
theorem dX12_layTried_170 : decode cX12_layTried 170 = .ok (.iinc 1 1, 3) := by decide +kernel
theorem dX12_layTried_173 : decode cX12_layTried 173 = .ok (.goto (-69), 3) := by decide +kernel
theorem dX12_layTried_176 : decode cX12_layTried 176 = .ok (.aload_n 0, 1) := by decide +kernel
theorem dX12_layTried_177 : decode cX12_layTried 177 = .ok (.getfield 130, 3) := by decide +kernel
theorem dX12_layTried_180 : decode cX12_layTried 180 = .ok (.iconst 1, 1) := by decide +kernel
theorem dX12_layTried_181 : decode cX12_layTried 181 = .ok (.aload_n 0, 1) := by decide +kernel
theorem dX12_layTried_182 : decode cX12_layTried 182 = .ok (.getfield 130, 3) := by decide +kernel
theorem dX12_layTried_185 : decode cX12_layTried 185 = .ok (.iconst 0, 1) := by decide +kernel
theorem dX12_layTried_186 : decode cX12_layTried 186 = .ok (.iaload, 1) := by decide +kernel
theorem dX12_layTried_187 : decode cX12_layTried 187 = .ok (.iastore, 1) := by decide +kernel
theorem dX12_layTried_188 : decode cX12_layTried 188 = .ok (.aload_n 0, 1) := by decide +kernel
theorem dX12_layTried_189 : decode cX12_layTried 189 = .ok (.getfield 133, 3) := by decide +kernel
theorem dX12_layTried_192 : decode cX12_layTried 192 = .ok (.iconst 1, 1) := by decide +kernel
theorem dX12_layTried_193 : decode cX12_layTried 193 = .ok (.aload_n 0, 1) := by decide +kernel
theorem dX12_layTried_194 : decode cX12_layTried 194 = .ok (.getfield 133, 3) := by decide +kernel
theorem dX12_layTried_197 : decode cX12_layTried 197 = .ok (.iconst 0, 1) := by decide +kernel
theorem dX12_layTried_198 : decode cX12_layTried 198 = .ok (.iaload, 1) := by decide +kernel
theorem dX12_layTried_199 : decode cX12_layTried 199 = .ok (.iastore, 1) := by decide +kernel
theorem dX12_layTried_200 : decode cX12_layTried 200 = .ok (.aload_n 0, 1) := by decide +kernel
theorem dX12_layTried_201 : decode cX12_layTried 201 = .ok (.invokevirtual 395, 3) := by decide +kernel
theorem dX12_layTried_204 : decode cX12_layTried 204 = .ok (.return_, 1) := by decide +kernel
theorem dX12_isHouse_0 : decode cX12_isHouse 0 = .ok (.iload_n 1, 1) := by decide +kernel
theorem dX12_isHouse_1 : decode cX12_isHouse 1 = .ok (.ifCond .lt 15, 3) := by decide +kernel
theorem dX12_isHouse_4 : decode cX12_isHouse 4 = .ok (.iload_n 1, 1) := by decide +kernel
theorem dX12_isHouse_5 : decode cX12_isHouse 5 = .ok (.aload_n 0, 1) := by decide +kernel
theorem dX12_isHouse_6 : decode cX12_isHouse 6 = .ok (.getfield 258, 3) := by decide +kernel
theorem dX12_isHouse_9 : decode cX12_isHouse 9 = .ok (.if_icmp .ge 7, 3) := by decide +kernel
theorem dX12_isHouse_12 : decode cX12_isHouse 12 = .ok (.iconst 1, 1) := by decide +kernel
theorem dX12_isHouse_13 : decode cX12_isHouse 13 = .ok (.goto 4, 3) := by decide +kernel
theorem dX12_isHouse_16 : decode cX12_isHouse 16 = .ok (.iconst 0, 1) := by decide +kernel
theorem dX12_isHouse_17 : decode cX12_isHouse 17 = .ok (.ireturn, 1) := by decide +kernel
theorem dX12_isMan_0 : decode cX12_isMan 0 = .ok (.iload_n 1, 1) := by decide +kernel
theorem dX12_isMan_1 : decode cX12_isMan 1 = .ok (.ifCond .lt 15, 3) := by decide +kernel
theorem dX12_isMan_4 : decode cX12_isMan 4 = .ok (.iload_n 1, 1) := by decide +kernel
theorem dX12_isMan_5 : decode cX12_isMan 5 = .ok (.aload_n 0, 1) := by decide +kernel
theorem dX12_isMan_6 : decode cX12_isMan 6 = .ok (.getfield 261, 3) := by decide +kernel
theorem dX12_isMan_9 : decode cX12_isMan 9 = .ok (.if_icmp .ge 7, 3) := by decide +kernel
theorem dX12_isMan_12 : decode cX12_isMan 12 = .ok (.iconst 1, 1) := by decide +kernel
theorem dX12_isMan_13 : decode cX12_isMan 13 = .ok (.goto 4, 3) := by decide +kernel
theorem dX12_isMan_16 : decode cX12_isMan 16 = .ok (.iconst 0, 1) := by decide +kernel
theorem dX12_isMan_17 : decode cX12_isMan 17 = .ok (.ireturn, 1) := by decide +kernel
theorem dX12_sizeOf_0 : decode cX12_sizeOf 0 = .ok (.iload_n 0, 1) := by decide +kernel
theorem dX12_sizeOf_1 : decode cX12_sizeOf 1 = .ok (.ifCond .ge 8, 3) := by decide +kernel
theorem dX12_sizeOf_4 : decode cX12_sizeOf 4 = .ok (.iload_n 0, 1) := by decide +kernel
theorem dX12_sizeOf_5 : decode cX12_sizeOf 5 = .ok (.ineg, 1) := by decide +kernel
theorem dX12_sizeOf_6 : decode cX12_sizeOf 6 = .ok (.goto 4, 3) := by decide +kernel
theorem dX12_sizeOf_9 : decode cX12_sizeOf 9 = .ok (.iload_n 0, 1) := by decide +kernel
theorem dX12_sizeOf_10 : decode cX12_sizeOf 10 = .ok (.ireturn, 1) := by decide +kernel
theorem dX12_lastBut_0 : decode cX12_lastBut 0 = .ok (.bipush 6, 2) := by decide +kernel
theorem dX12_lastBut_2 : decode cX12_lastBut 2 = .ok (.iload_n 1, 1) := by decide +kernel
theorem dX12_lastBut_3 : decode cX12_lastBut 3 = .ok (.imul, 1) := by decide +kernel
theorem dX12_lastBut_4 : decode cX12_lastBut 4 = .ok (.iload_n 2, 1) := by decide +kernel
theorem dX12_lastBut_5 : decode cX12_lastBut 5 = .ok (.iadd, 1) := by decide +kernel
theorem dX12_lastBut_6 : decode cX12_lastBut 6 = .ok (.istore 5, 2) := by decide +kernel
theorem dX12_lastBut_8 : decode cX12_lastBut 8 = .ok (.aload_n 0, 1) := by decide +kernel
theorem dX12_lastBut_9 : decode cX12_lastBut 9 = .ok (.getfield 106, 3) := by decide +kernel
theorem dX12_lastBut_12 : decode cX12_lastBut 12 = .ok (.bipush 8, 2) := by decide +kernel
theorem dX12_lastBut_14 : decode cX12_lastBut 14 = .ok (.iload 5, 2) := by decide +kernel
theorem dX12_lastBut_16 : decode cX12_lastBut 16 = .ok (.imul, 1) := by decide +kernel
theorem dX12_lastBut_17 : decode cX12_lastBut 17 = .ok (.iload_n 3, 1) := by decide +kernel
theorem dX12_lastBut_18 : decode cX12_lastBut 18 = .ok (.iadd, 1) := by decide +kernel
theorem dX12_lastBut_19 : decode cX12_lastBut 19 = .ok (.iaload, 1) := by decide +kernel
theorem dX12_lastBut_20 : decode cX12_lastBut 20 = .ok (.istore 6, 2) := by decide +kernel
theorem dX12_lastBut_22 : decode cX12_lastBut 22 = .ok (.iconst 0, 1) := by decide +kernel
theorem dX12_lastBut_23 : decode cX12_lastBut 23 = .ok (.istore 7, 2) := by decide +kernel
theorem dX12_lastBut_25 : decode cX12_lastBut 25 = .ok (.iload 7, 2) := by decide +kernel
theorem dX12_lastBut_27 : decode cX12_lastBut 27 = .ok (.aload_n 0, 1) := by decide +kernel
theorem dX12_lastBut_28 : decode cX12_lastBut 28 = .ok (.getfield 115, 3) := by decide +kernel
theorem dX12_lastBut_31 : decode cX12_lastBut 31 = .ok (.iload 5, 2) := by decide +kernel
theorem dX12_lastBut_33 : decode cX12_lastBut 33 = .ok (.iaload, 1) := by decide +kernel
theorem dX12_lastBut_34 : decode cX12_lastBut 34 = .ok (.if_icmp .ge 58, 3) := by decide +kernel
theorem dX12_lastBut_37 : decode cX12_lastBut 37 = .ok (.iload 6, 2) := by decide +kernel
theorem dX12_lastBut_39 : decode cX12_lastBut 39 = .ok (.aload_n 0, 1) := by decide +kernel
theorem dX12_lastBut_40 : decode cX12_lastBut 40 = .ok (.getfield 109, 3) := by decide +kernel
theorem dX12_lastBut_43 : decode cX12_lastBut 43 = .ok (.bipush 12, 2) := by decide +kernel
theorem dX12_lastBut_45 : decode cX12_lastBut 45 = .ok (.iload 5, 2) := by decide +kernel
theorem dX12_lastBut_47 : decode cX12_lastBut 47 = .ok (.imul, 1) := by decide +kernel
theorem dX12_lastBut_48 : decode cX12_lastBut 48 = .ok (.iload 7, 2) := by decide +kernel
theorem dX12_lastBut_50 : decode cX12_lastBut 50 = .ok (.iadd, 1) := by decide +kernel
theorem dX12_lastBut_51 : decode cX12_lastBut 51 = .ok (.iaload, 1) := by decide +kernel
theorem dX12_lastBut_52 : decode cX12_lastBut 52 = .ok (.iload_n 3, 1) := by decide +kernel
theorem dX12_lastBut_53 : decode cX12_lastBut 53 = .ok (.if_icmp .ne 29, 3) := by decide +kernel
theorem dX12_lastBut_56 : decode cX12_lastBut 56 = .ok (.iload 4, 2) := by decide +kernel
theorem dX12_lastBut_58 : decode cX12_lastBut 58 = .ok (.iload 7, 2) := by decide +kernel
theorem dX12_lastBut_60 : decode cX12_lastBut 60 = .ok (.invokestatic 426, 3) := by decide +kernel
theorem dX12_lastBut_63 : decode cX12_lastBut 63 = .ok (.ifCond .ne 19, 3) := by decide +kernel
theorem dX12_lastBut_66 : decode cX12_lastBut 66 = .ok (.aload_n 0, 1) := by decide +kernel
theorem dX12_lastBut_67 : decode cX12_lastBut 67 = .ok (.getfield 112, 3) := by decide +kernel
theorem dX12_lastBut_70 : decode cX12_lastBut 70 = .ok (.bipush 12, 2) := by decide +kernel
theorem dX12_lastBut_72 : decode cX12_lastBut 72 = .ok (.iload 5, 2) := by decide +kernel
theorem dX12_lastBut_74 : decode cX12_lastBut 74 = .ok (.imul, 1) := by decide +kernel
theorem dX12_lastBut_75 : decode cX12_lastBut 75 = .ok (.iload 7, 2) := by decide +kernel
theorem dX12_lastBut_77 : decode cX12_lastBut 77 = .ok (.iadd, 1) := by decide +kernel
theorem dX12_lastBut_78 : decode cX12_lastBut 78 = .ok (.iaload, 1) := by decide +kernel
theorem dX12_lastBut_79 : decode cX12_lastBut 79 = .ok (.goto 4, 3) := by decide +kernel
theorem dX12_lastBut_82 : decode cX12_lastBut 82 = .ok (.iconst 0, 1) := by decide +kernel
theorem dX12_lastBut_83 : decode cX12_lastBut 83 = .ok (.iadd, 1) := by decide +kernel
theorem dX12_lastBut_84 : decode cX12_lastBut 84 = .ok (.istore 6, 2) := by decide +kernel
theorem dX12_lastBut_86 : decode cX12_lastBut 86 = .ok (.iinc 7 1, 3) := by decide +kernel
theorem dX12_lastBut_89 : decode cX12_lastBut 89 = .ok (.goto (-64), 3) := by decide +kernel
theorem dX12_lastBut_92 : decode cX12_lastBut 92 = .ok (.iload 6, 2) := by decide +kernel
theorem dX12_lastBut_94 : decode cX12_lastBut 94 = .ok (.ireturn, 1) := by decide +kernel
theorem dX12_lastAt_0 : decode cX12_lastAt 0 = .ok (.aload_n 0, 1) := by decide +kernel
theorem dX12_lastAt_1 : decode cX12_lastAt 1 = .ok (.iload_n 1, 1) := by decide +kernel
theorem dX12_lastAt_2 : decode cX12_lastAt 2 = .ok (.iload_n 2, 1) := by decide +kernel
theorem dX12_lastAt_3 : decode cX12_lastAt 3 = .ok (.iload_n 3, 1) := by decide +kernel
theorem dX12_lastAt_4 : decode cX12_lastAt 4 = .ok (.iconst 0, 1) := by decide +kernel
theorem dX12_lastAt_5 : decode cX12_lastAt 5 = .ok (.invokevirtual 429, 3) := by decide +kernel
theorem dX12_lastAt_8 : decode cX12_lastAt 8 = .ok (.ireturn, 1) := by decide +kernel
theorem dX12_footAt_0 : decode cX12_footAt 0 = .ok (.aload_n 0, 1) := by decide +kernel
theorem dX12_footAt_1 : decode cX12_footAt 1 = .ok (.getfield 39, 3) := by decide +kernel
theorem dX12_footAt_4 : decode cX12_footAt 4 = .ok (.iload_n 2, 1) := by decide +kernel
theorem dX12_footAt_5 : decode cX12_footAt 5 = .ok (.iaload, 1) := by decide +kernel
theorem dX12_footAt_6 : decode cX12_footAt 6 = .ok (.aload_n 0, 1) := by decide +kernel
theorem dX12_footAt_7 : decode cX12_footAt 7 = .ok (.getfield 42, 3) := by decide +kernel
theorem dX12_footAt_10 : decode cX12_footAt 10 = .ok (.iload_n 2, 1) := by decide +kernel
theorem dX12_footAt_11 : decode cX12_footAt 11 = .ok (.iaload, 1) := by decide +kernel
theorem dX12_footAt_12 : decode cX12_footAt 12 = .ok (.iload_n 3, 1) := by decide +kernel
theorem dX12_footAt_13 : decode cX12_footAt 13 = .ok (.if_icmp .ne 17, 3) := by decide +kernel
theorem dX12_footAt_16 : decode cX12_footAt 16 = .ok (.aload_n 0, 1) := by decide +kernel
theorem dX12_footAt_17 : decode cX12_footAt 17 = .ok (.getfield 121, 3) := by decide +kernel
theorem dX12_footAt_20 : decode cX12_footAt 20 = .ok (.bipush 8, 2) := by decide +kernel
theorem dX12_footAt_22 : decode cX12_footAt 22 = .ok (.iload_n 1, 1) := by decide +kernel
theorem dX12_footAt_23 : decode cX12_footAt 23 = .ok (.imul, 1) := by decide +kernel
theorem dX12_footAt_24 : decode cX12_footAt 24 = .ok (.iload_n 2, 1) := by decide +kernel
theorem dX12_footAt_25 : decode cX12_footAt 25 = .ok (.iadd, 1) := by decide +kernel
theorem dX12_footAt_26 : decode cX12_footAt 26 = .ok (.iaload, 1) := by decide +kernel
theorem dX12_footAt_27 : decode cX12_footAt 27 = .ok (.goto 4, 3) := by decide +kernel
theorem dX12_footAt_30 : decode cX12_footAt 30 = .ok (.iconst 0, 1) := by decide +kernel
theorem dX12_footAt_31 : decode cX12_footAt 31 = .ok (.iadd, 1) := by decide +kernel
theorem dX12_footAt_32 : decode cX12_footAt 32 = .ok (.ireturn, 1) := by decide +kernel
theorem dX12_farBut_0 : decode cX12_farBut 0 = .ok (.iconst 0, 1) := by decide +kernel
theorem dX12_farBut_1 : decode cX12_farBut 1 = .ok (.istore 5, 2) := by decide +kernel
theorem dX12_farBut_3 : decode cX12_farBut 3 = .ok (.iconst 0, 1) := by decide +kernel
theorem dX12_farBut_4 : decode cX12_farBut 4 = .ok (.istore 6, 2) := by decide +kernel
theorem dX12_farBut_6 : decode cX12_farBut 6 = .ok (.iload 6, 2) := by decide +kernel
theorem dX12_farBut_8 : decode cX12_farBut 8 = .ok (.bipush 8, 2) := by decide +kernel
theorem dX12_farBut_10 : decode cX12_farBut 10 = .ok (.if_icmp .ge 36, 3) := by decide +kernel
theorem dX12_farBut_13 : decode cX12_farBut 13 = .ok (.iload 5, 2) := by decide +kernel
theorem dX12_farBut_15 : decode cX12_farBut 15 = .ok (.aload_n 0, 1) := by decide +kernel
theorem dX12_farBut_16 : decode cX12_farBut 16 = .ok (.iload_n 1, 1) := by decide +kernel
theorem dX12_farBut_17 : decode cX12_farBut 17 = .ok (.iload_n 2, 1) := by decide +kernel
theorem dX12_farBut_18 : decode cX12_farBut 18 = .ok (.iload 6, 2) := by decide +kernel
theorem dX12_farBut_20 : decode cX12_farBut 20 = .ok (.invokevirtual 433, 3) := by decide +kernel
theorem dX12_farBut_23 : decode cX12_farBut 23 = .ok (.aload_n 0, 1) := by decide +kernel
theorem dX12_farBut_24 : decode cX12_farBut 24 = .ok (.iload_n 1, 1) := by decide +kernel
theorem dX12_farBut_25 : decode cX12_farBut 25 = .ok (.iload_n 3, 1) := by decide +kernel
theorem dX12_farBut_26 : decode cX12_farBut 26 = .ok (.iload 6, 2) := by decide +kernel
theorem dX12_farBut_28 : decode cX12_farBut 28 = .ok (.iload 4, 2) := by decide +kernel
theorem dX12_farBut_30 : decode cX12_farBut 30 = .ok (.invokevirtual 429, 3) := by decide +kernel
theorem dX12_farBut_33 : decode cX12_farBut 33 = .ok (.isub, 1) := by decide +kernel
theorem dX12_farBut_34 : decode cX12_farBut 34 = .ok (.invokestatic 437, 3) := by decide +kernel
theorem dX12_farBut_37 : decode cX12_farBut 37 = .ok (.iadd, 1) := by decide +kernel
theorem dX12_farBut_38 : decode cX12_farBut 38 = .ok (.istore 5, 2) := by decide +kernel
theorem dX12_farBut_40 : decode cX12_farBut 40 = .ok (.iinc 6 1, 3) := by decide +kernel
theorem dX12_farBut_43 : decode cX12_farBut 43 = .ok (.goto (-37), 3) := by decide +kernel
theorem dX12_farBut_46 : decode cX12_farBut 46 = .ok (.iload 5, 2) := by decide +kernel
theorem dX12_farBut_48 : decode cX12_farBut 48 = .ok (.ireturn, 1) := by decide +kernel
theorem dX12_pinchOf_0 : decode cX12_pinchOf 0 = .ok (.iconst 0, 1) := by decide +kernel
theorem dX12_pinchOf_1 : decode cX12_pinchOf 1 = .ok (.istore_n 3, 1) := by decide +kernel
theorem dX12_pinchOf_2 : decode cX12_pinchOf 2 = .ok (.iconst 0, 1) := by decide +kernel
theorem dX12_pinchOf_3 : decode cX12_pinchOf 3 = .ok (.istore 4, 2) := by decide +kernel
theorem dX12_pinchOf_5 : decode cX12_pinchOf 5 = .ok (.iload 4, 2) := by decide +kernel
theorem dX12_pinchOf_7 : decode cX12_pinchOf 7 = .ok (.bipush 8, 2) := by decide +kernel
theorem dX12_pinchOf_9 : decode cX12_pinchOf 9 = .ok (.if_icmp .ge 52, 3) := by decide +kernel
theorem dX12_pinchOf_12 : decode cX12_pinchOf 12 = .ok (.aload_n 0, 1) := by decide +kernel
theorem dX12_pinchOf_13 : decode cX12_pinchOf 13 = .ok (.iload_n 1, 1) := by decide +kernel
theorem dX12_pinchOf_14 : decode cX12_pinchOf 14 = .ok (.iload_n 2, 1) := by decide +kernel
theorem dX12_pinchOf_15 : decode cX12_pinchOf 15 = .ok (.iload 4, 2) := by decide +kernel
theorem dX12_pinchOf_17 : decode cX12_pinchOf 17 = .ok (.invokevirtual 433, 3) := by decide +kernel
theorem dX12_pinchOf_20 : decode cX12_pinchOf 20 = .ok (.aload_n 0, 1) := by decide +kernel
theorem dX12_pinchOf_21 : decode cX12_pinchOf 21 = .ok (.iload_n 1, 1) := by decide +kernel
theorem dX12_pinchOf_22 : decode cX12_pinchOf 22 = .ok (.aload_n 0, 1) := by decide +kernel
theorem dX12_pinchOf_23 : decode cX12_pinchOf 23 = .ok (.getfield 118, 3) := by decide +kernel
theorem dX12_pinchOf_26 : decode cX12_pinchOf 26 = .ok (.bipush 8, 2) := by decide +kernel
theorem dX12_pinchOf_28 : decode cX12_pinchOf 28 = .ok (.iload_n 1, 1) := by decide +kernel
theorem dX12_pinchOf_29 : decode cX12_pinchOf 29 = .ok (.imul, 1) := by decide +kernel
theorem dX12_pinchOf_30 : decode cX12_pinchOf 30 = .ok (.iload_n 2, 1) := by decide +kernel
theorem dX12_pinchOf_31 : decode cX12_pinchOf 31 = .ok (.iadd, 1) := by decide +kernel
theorem dX12_pinchOf_32 : decode cX12_pinchOf 32 = .ok (.iaload, 1) := by decide +kernel
theorem dX12_pinchOf_33 : decode cX12_pinchOf 33 = .ok (.iload 4, 2) := by decide +kernel
theorem dX12_pinchOf_35 : decode cX12_pinchOf 35 = .ok (.invokevirtual 440, 3) := by decide +kernel
theorem dX12_pinchOf_38 : decode cX12_pinchOf 38 = .ok (.isub, 1) := by decide +kernel
theorem dX12_pinchOf_39 : decode cX12_pinchOf 39 = .ok (.istore 5, 2) := by decide +kernel
theorem dX12_pinchOf_41 : decode cX12_pinchOf 41 = .ok (.iload_n 3, 1) := by decide +kernel
theorem dX12_pinchOf_42 : decode cX12_pinchOf 42 = .ok (.iload 5, 2) := by decide +kernel
theorem dX12_pinchOf_44 : decode cX12_pinchOf 44 = .ok (.ifCond .le 8, 3) := by decide +kernel
theorem dX12_pinchOf_47 : decode cX12_pinchOf 47 = .ok (.iload 5, 2) := by decide +kernel
theorem dX12_pinchOf_49 : decode cX12_pinchOf 49 = .ok (.goto 4, 3) := by decide +kernel
theorem dX12_pinchOf_52 : decode cX12_pinchOf 52 = .ok (.iconst 0, 1) := by decide +kernel
theorem dX12_pinchOf_53 : decode cX12_pinchOf 53 = .ok (.iadd, 1) := by decide +kernel
theorem dX12_pinchOf_54 : decode cX12_pinchOf 54 = .ok (.istore_n 3, 1) := by decide +kernel
theorem dX12_pinchOf_55 : decode cX12_pinchOf 55 = .ok (.iinc 4 1, 3) := by decide +kernel
theorem dX12_pinchOf_58 : decode cX12_pinchOf 58 = .ok (.goto (-53), 3) := by decide +kernel
theorem dX12_pinchOf_61 : decode cX12_pinchOf 61 = .ok (.iload_n 3, 1) := by decide +kernel
theorem dX12_pinchOf_62 : decode cX12_pinchOf 62 = .ok (.ireturn, 1) := by decide +kernel
theorem dX12_layDeed_0 : decode cX12_layDeed 0 = .ok (.aload_n 0, 1) := by decide +kernel
theorem dX12_layDeed_1 : decode cX12_layDeed 1 = .ok (.getfield 99, 3) := by decide +kernel
theorem dX12_layDeed_4 : decode cX12_layDeed 4 = .ok (.iconst 0, 1) := by decide +kernel
theorem dX12_layDeed_5 : decode cX12_layDeed 5 = .ok (.aload_n 0, 1) := by decide +kernel
theorem dX12_layDeed_6 : decode cX12_layDeed 6 = .ok (.getfield 54, 3) := by decide +kernel
theorem dX12_layDeed_9 : decode cX12_layDeed 9 = .ok (.iload_n 2, 1) := by decide +kernel
theorem dX12_layDeed_10 : decode cX12_layDeed 10 = .ok (.iaload, 1) := by decide +kernel
theorem dX12_layDeed_11 : decode cX12_layDeed 11 = .ok (.i2l, 1) := by decide +kernel
theorem dX12_layDeed_12 : decode cX12_layDeed 12 = .ok (.lastore, 1) := by decide +kernel
theorem dX12_layDeed_13 : decode cX12_layDeed 13 = .ok (.aload_n 0, 1) := by decide +kernel
theorem dX12_layDeed_14 : decode cX12_layDeed 14 = .ok (.getfield 99, 3) := by decide +kernel
theorem dX12_layDeed_17 : decode cX12_layDeed 17 = .ok (.iconst 1, 1) := by decide +kernel
theorem dX12_layDeed_18 : decode cX12_layDeed 18 = .ok (.aload_n 0, 1) := by decide +kernel
theorem dX12_layDeed_19 : decode cX12_layDeed 19 = .ok (.getfield 51, 3) := by decide +kernel
theorem dX12_layDeed_22 : decode cX12_layDeed 22 = .ok (.iload_n 2, 1) := by decide +kernel
theorem dX12_layDeed_23 : decode cX12_layDeed 23 = .ok (.iaload, 1) := by decide +kernel
theorem dX12_layDeed_24 : decode cX12_layDeed 24 = .ok (.i2l, 1) := by decide +kernel
theorem dX12_layDeed_25 : decode cX12_layDeed 25 = .ok (.lastore, 1) := by decide +kernel
theorem dX12_layDeed_26 : decode cX12_layDeed 26 = .ok (.aload_n 0, 1) := by decide +kernel
theorem dX12_layDeed_27 : decode cX12_layDeed 27 = .ok (.getfield 99, 3) := by decide +kernel
theorem dX12_layDeed_30 : decode cX12_layDeed 30 = .ok (.iconst 2, 1) := by decide +kernel
theorem dX12_layDeed_31 : decode cX12_layDeed 31 = .ok (.aload_n 0, 1) := by decide +kernel
theorem dX12_layDeed_32 : decode cX12_layDeed 32 = .ok (.iload_n 1, 1) := by decide +kernel
theorem dX12_layDeed_33 : decode cX12_layDeed 33 = .ok (.aload_n 0, 1) := by decide +kernel
theorem dX12_layDeed_34 : decode cX12_layDeed 34 = .ok (.getfield 48, 3) := by decide +kernel
theorem dX12_layDeed_37 : decode cX12_layDeed 37 = .ok (.iload_n 2, 1) := by decide +kernel
theorem dX12_layDeed_38 : decode cX12_layDeed 38 = .ok (.iaload, 1) := by decide +kernel
theorem dX12_layDeed_39 : decode cX12_layDeed 39 = .ok (.aload_n 0, 1) := by decide +kernel
theorem dX12_layDeed_40 : decode cX12_layDeed 40 = .ok (.getfield 51, 3) := by decide +kernel
theorem dX12_layDeed_43 : decode cX12_layDeed 43 = .ok (.iload_n 2, 1) := by decide +kernel
theorem dX12_layDeed_44 : decode cX12_layDeed 44 = .ok (.iaload, 1) := by decide +kernel
theorem dX12_layDeed_45 : decode cX12_layDeed 45 = .ok (.invokevirtual 440, 3) := by decide +kernel
theorem dX12_layDeed_48 : decode cX12_layDeed 48 = .ok (.i2l, 1) := by decide +kernel
theorem dX12_layDeed_49 : decode cX12_layDeed 49 = .ok (.lastore, 1) := by decide +kernel
theorem dX12_layDeed_50 : decode cX12_layDeed 50 = .ok (.aload_n 0, 1) := by decide +kernel
theorem dX12_layDeed_51 : decode cX12_layDeed 51 = .ok (.getfield 99, 3) := by decide +kernel
theorem dX12_layDeed_54 : decode cX12_layDeed 54 = .ok (.iconst 3, 1) := by decide +kernel
theorem dX12_layDeed_55 : decode cX12_layDeed 55 = .ok (.lconst 0, 1) := by decide +kernel
theorem dX12_layDeed_56 : decode cX12_layDeed 56 = .ok (.lastore, 1) := by decide +kernel
theorem dX12_layDeed_57 : decode cX12_layDeed 57 = .ok (.aload_n 0, 1) := by decide +kernel
theorem dX12_layDeed_58 : decode cX12_layDeed 58 = .ok (.getfield 99, 3) := by decide +kernel
theorem dX12_layDeed_61 : decode cX12_layDeed 61 = .ok (.iconst 4, 1) := by decide +kernel
theorem dX12_layDeed_62 : decode cX12_layDeed 62 = .ok (.lconst 0, 1) := by decide +kernel
theorem dX12_layDeed_63 : decode cX12_layDeed 63 = .ok (.lastore, 1) := by decide +kernel
theorem dX12_layDeed_64 : decode cX12_layDeed 64 = .ok (.aload_n 0, 1) := by decide +kernel
theorem dX12_layDeed_65 : decode cX12_layDeed 65 = .ok (.getfield 99, 3) := by decide +kernel
theorem dX12_layDeed_68 : decode cX12_layDeed 68 = .ok (.iconst 5, 1) := by decide +kernel
theorem dX12_layDeed_69 : decode cX12_layDeed 69 = .ok (.aload_n 0, 1) := by decide +kernel
theorem dX12_layDeed_70 : decode cX12_layDeed 70 = .ok (.getfield 115, 3) := by decide +kernel
theorem dX12_layDeed_73 : decode cX12_layDeed 73 = .ok (.bipush 6, 2) := by decide +kernel
theorem dX12_layDeed_75 : decode cX12_layDeed 75 = .ok (.iload_n 1, 1) := by decide +kernel
theorem dX12_layDeed_76 : decode cX12_layDeed 76 = .ok (.imul, 1) := by decide +kernel
theorem dX12_layDeed_77 : decode cX12_layDeed 77 = .ok (.aload_n 0, 1) := by decide +kernel
theorem dX12_layDeed_78 : decode cX12_layDeed 78 = .ok (.getfield 48, 3) := by decide +kernel
theorem dX12_layDeed_81 : decode cX12_layDeed 81 = .ok (.iload_n 2, 1) := by decide +kernel
theorem dX12_layDeed_82 : decode cX12_layDeed 82 = .ok (.iaload, 1) := by decide +kernel
theorem dX12_layDeed_83 : decode cX12_layDeed 83 = .ok (.iadd, 1) := by decide +kernel
theorem dX12_layDeed_84 : decode cX12_layDeed 84 = .ok (.iaload, 1) := by decide +kernel
theorem dX12_layDeed_85 : decode cX12_layDeed 85 = .ok (.i2l, 1) := by decide +kernel
theorem dX12_layDeed_86 : decode cX12_layDeed 86 = .ok (.lastore, 1) := by decide +kernel
theorem dX12_layDeed_87 : decode cX12_layDeed 87 = .ok (.aload_n 0, 1) := by decide +kernel
theorem dX12_layDeed_88 : decode cX12_layDeed 88 = .ok (.getfield 99, 3) := by decide +kernel
theorem dX12_layDeed_91 : decode cX12_layDeed 91 = .ok (.bipush 6, 2) := by decide +kernel
theorem dX12_layDeed_93 : decode cX12_layDeed 93 = .ok (.aload_n 0, 1) := by decide +kernel
theorem dX12_layDeed_94 : decode cX12_layDeed 94 = .ok (.getfield 133, 3) := by decide +kernel
theorem dX12_layDeed_97 : decode cX12_layDeed 97 = .ok (.iload_n 1, 1) := by decide +kernel
theorem dX12_layDeed_98 : decode cX12_layDeed 98 = .ok (.iaload, 1) := by decide +kernel
theorem dX12_layDeed_99 : decode cX12_layDeed 99 = .ok (.i2l, 1) := by decide +kernel
theorem dX12_layDeed_100 : decode cX12_layDeed 100 = .ok (.lastore, 1) := by decide +kernel
theorem dX12_layDeed_101 : decode cX12_layDeed 101 = .ok (.return_, 1) := by decide +kernel
theorem dX12_layMan_0 : decode cX12_layMan 0 = .ok (.aload_n 0, 1) := by decide +kernel
theorem dX12_layMan_1 : decode cX12_layMan 1 = .ok (.getfield 118, 3) := by decide +kernel
theorem dX12_layMan_4 : decode cX12_layMan 4 = .ok (.bipush 8, 2) := by decide +kernel
theorem dX12_layMan_6 : decode cX12_layMan 6 = .ok (.iload_n 1, 1) := by decide +kernel
theorem dX12_layMan_7 : decode cX12_layMan 7 = .ok (.imul, 1) := by decide +kernel
theorem dX12_layMan_8 : decode cX12_layMan 8 = .ok (.iload_n 2, 1) := by decide +kernel
theorem dX12_layMan_9 : decode cX12_layMan 9 = .ok (.iadd, 1) := by decide +kernel
theorem dX12_layMan_10 : decode cX12_layMan 10 = .ok (.iaload, 1) := by decide +kernel
theorem dX12_layMan_11 : decode cX12_layMan 11 = .ok (.istore_n 3, 1) := by decide +kernel
theorem dX12_layMan_12 : decode cX12_layMan 12 = .ok (.aload_n 0, 1) := by decide +kernel
theorem dX12_layMan_13 : decode cX12_layMan 13 = .ok (.getfield 99, 3) := by decide +kernel
theorem dX12_layMan_16 : decode cX12_layMan 16 = .ok (.iconst 0, 1) := by decide +kernel
theorem dX12_layMan_17 : decode cX12_layMan 17 = .ok (.lconst 0, 1) := by decide +kernel
theorem dX12_layMan_18 : decode cX12_layMan 18 = .ok (.lastore, 1) := by decide +kernel
theorem dX12_layMan_19 : decode cX12_layMan 19 = .ok (.aload_n 0, 1) := by decide +kernel
theorem dX12_layMan_20 : decode cX12_layMan 20 = .ok (.getfield 99, 3) := by decide +kernel
theorem dX12_layMan_23 : decode cX12_layMan 23 = .ok (.iconst 1, 1) := by decide +kernel
theorem dX12_layMan_24 : decode cX12_layMan 24 = .ok (.aload_n 0, 1) := by decide +kernel
theorem dX12_layMan_25 : decode cX12_layMan 25 = .ok (.getfield 42, 3) := by decide +kernel
theorem dX12_layMan_28 : decode cX12_layMan 28 = .ok (.iload_n 2, 1) := by decide +kernel
theorem dX12_layMan_29 : decode cX12_layMan 29 = .ok (.iaload, 1) := by decide +kernel
theorem dX12_layMan_30 : decode cX12_layMan 30 = .ok (.i2l, 1) := by decide +kernel
theorem dX12_layMan_31 : decode cX12_layMan 31 = .ok (.lastore, 1) := by decide +kernel
theorem dX12_layMan_32 : decode cX12_layMan 32 = .ok (.aload_n 0, 1) := by decide +kernel
theorem dX12_layMan_33 : decode cX12_layMan 33 = .ok (.getfield 99, 3) := by decide +kernel
theorem dX12_layMan_36 : decode cX12_layMan 36 = .ok (.iconst 2, 1) := by decide +kernel
theorem dX12_layMan_37 : decode cX12_layMan 37 = .ok (.aload_n 0, 1) := by decide +kernel
theorem dX12_layMan_38 : decode cX12_layMan 38 = .ok (.iload_n 1, 1) := by decide +kernel
theorem dX12_layMan_39 : decode cX12_layMan 39 = .ok (.iload_n 3, 1) := by decide +kernel
theorem dX12_layMan_40 : decode cX12_layMan 40 = .ok (.aload_n 0, 1) := by decide +kernel
theorem dX12_layMan_41 : decode cX12_layMan 41 = .ok (.getfield 42, 3) := by decide +kernel
theorem dX12_layMan_44 : decode cX12_layMan 44 = .ok (.iload_n 2, 1) := by decide +kernel
theorem dX12_layMan_45 : decode cX12_layMan 45 = .ok (.iaload, 1) := by decide +kernel
theorem dX12_layMan_46 : decode cX12_layMan 46 = .ok (.invokevirtual 440, 3) := by decide +kernel
theorem dX12_layMan_49 : decode cX12_layMan 49 = .ok (.i2l, 1) := by decide +kernel
theorem dX12_layMan_50 : decode cX12_layMan 50 = .ok (.lastore, 1) := by decide +kernel
theorem dX12_layMan_51 : decode cX12_layMan 51 = .ok (.aload_n 0, 1) := by decide +kernel
theorem dX12_layMan_52 : decode cX12_layMan 52 = .ok (.getfield 99, 3) := by decide +kernel
theorem dX12_layMan_55 : decode cX12_layMan 55 = .ok (.iconst 3, 1) := by decide +kernel
theorem dX12_layMan_56 : decode cX12_layMan 56 = .ok (.aload_n 0, 1) := by decide +kernel
theorem dX12_layMan_57 : decode cX12_layMan 57 = .ok (.iload_n 1, 1) := by decide +kernel
theorem dX12_layMan_58 : decode cX12_layMan 58 = .ok (.iload_n 2, 1) := by decide +kernel
theorem dX12_layMan_59 : decode cX12_layMan 59 = .ok (.invokevirtual 443, 3) := by decide +kernel
theorem dX12_layMan_62 : decode cX12_layMan 62 = .ok (.i2l, 1) := by decide +kernel
theorem dX12_layMan_63 : decode cX12_layMan 63 = .ok (.lastore, 1) := by decide +kernel
theorem dX12_layMan_64 : decode cX12_layMan 64 = .ok (.aload_n 0, 1) := by decide +kernel
theorem dX12_layMan_65 : decode cX12_layMan 65 = .ok (.getfield 99, 3) := by decide +kernel
theorem dX12_layMan_68 : decode cX12_layMan 68 = .ok (.iconst 4, 1) := by decide +kernel
theorem dX12_layMan_69 : decode cX12_layMan 69 = .ok (.aload_n 0, 1) := by decide +kernel
theorem dX12_layMan_70 : decode cX12_layMan 70 = .ok (.getfield 124, 3) := by decide +kernel
theorem dX12_layMan_73 : decode cX12_layMan 73 = .ok (.bipush 8, 2) := by decide +kernel
theorem dX12_layMan_75 : decode cX12_layMan 75 = .ok (.iload_n 1, 1) := by decide +kernel
theorem dX12_layMan_76 : decode cX12_layMan 76 = .ok (.imul, 1) := by decide +kernel
theorem dX12_layMan_77 : decode cX12_layMan 77 = .ok (.iload_n 2, 1) := by decide +kernel
theorem dX12_layMan_78 : decode cX12_layMan 78 = .ok (.iadd, 1) := by decide +kernel
theorem dX12_layMan_79 : decode cX12_layMan 79 = .ok (.iaload, 1) := by decide +kernel
theorem dX12_layMan_80 : decode cX12_layMan 80 = .ok (.i2l, 1) := by decide +kernel
theorem dX12_layMan_81 : decode cX12_layMan 81 = .ok (.lastore, 1) := by decide +kernel
theorem dX12_layMan_82 : decode cX12_layMan 82 = .ok (.aload_n 0, 1) := by decide +kernel
theorem dX12_layMan_83 : decode cX12_layMan 83 = .ok (.getfield 99, 3) := by decide +kernel
theorem dX12_layMan_86 : decode cX12_layMan 86 = .ok (.iconst 5, 1) := by decide +kernel
theorem dX12_layMan_87 : decode cX12_layMan 87 = .ok (.aload_n 0, 1) := by decide +kernel
theorem dX12_layMan_88 : decode cX12_layMan 88 = .ok (.getfield 115, 3) := by decide +kernel
theorem dX12_layMan_91 : decode cX12_layMan 91 = .ok (.bipush 6, 2) := by decide +kernel
theorem dX12_layMan_93 : decode cX12_layMan 93 = .ok (.iload_n 1, 1) := by decide +kernel
theorem dX12_layMan_94 : decode cX12_layMan 94 = .ok (.imul, 1) := by decide +kernel
theorem dX12_layMan_95 : decode cX12_layMan 95 = .ok (.iload_n 3, 1) := by decide +kernel
theorem dX12_layMan_96 : decode cX12_layMan 96 = .ok (.iadd, 1) := by decide +kernel
theorem dX12_layMan_97 : decode cX12_layMan 97 = .ok (.iaload, 1) := by decide +kernel
theorem dX12_layMan_98 : decode cX12_layMan 98 = .ok (.i2l, 1) := by decide +kernel
theorem dX12_layMan_99 : decode cX12_layMan 99 = .ok (.lastore, 1) := by decide +kernel
theorem dX12_layMan_100 : decode cX12_layMan 100 = .ok (.aload_n 0, 1) := by decide +kernel
theorem dX12_layMan_101 : decode cX12_layMan 101 = .ok (.getfield 99, 3) := by decide +kernel
theorem dX12_layMan_104 : decode cX12_layMan 104 = .ok (.bipush 6, 2) := by decide +kernel
theorem dX12_layMan_106 : decode cX12_layMan 106 = .ok (.aload_n 0, 1) := by decide +kernel
theorem dX12_layMan_107 : decode cX12_layMan 107 = .ok (.getfield 133, 3) := by decide +kernel
theorem dX12_layMan_110 : decode cX12_layMan 110 = .ok (.iload_n 1, 1) := by decide +kernel
theorem dX12_layMan_111 : decode cX12_layMan 111 = .ok (.iaload, 1) := by decide +kernel
theorem dX12_layMan_112 : decode cX12_layMan 112 = .ok (.i2l, 1) := by decide +kernel
theorem dX12_layMan_113 : decode cX12_layMan 113 = .ok (.lastore, 1) := by decide +kernel
theorem dX12_layMan_114 : decode cX12_layMan 114 = .ok (.return_, 1) := by decide +kernel
theorem dX12_lawOf_0 : decode cX12_lawOf 0 = .ok (.aload_n 0, 1) := by decide +kernel
theorem dX12_lawOf_1 : decode cX12_lawOf 1 = .ok (.iconst 0, 1) := by decide +kernel
theorem dX12_lawOf_2 : decode cX12_lawOf 2 = .ok (.putfield 369, 3) := by decide +kernel
theorem dX12_lawOf_5 : decode cX12_lawOf 5 = .ok (.aload_n 0, 1) := by decide +kernel
theorem dX12_lawOf_6 : decode cX12_lawOf 6 = .ok (.getfield 78, 3) := by decide +kernel
theorem dX12_lawOf_9 : decode cX12_lawOf 9 = .ok (.iload_n 1, 1) := by decide +kernel
theorem dX12_lawOf_10 : decode cX12_lawOf 10 = .ok (.iaload, 1) := by decide +kernel
theorem dX12_lawOf_11 : decode cX12_lawOf 11 = .ok (.istore_n 2, 1) := by decide +kernel
theorem dX12_lawOf_12 : decode cX12_lawOf 12 = .ok (.iload_n 2, 1) := by decide +kernel
theorem dX12_lawOf_13 : decode cX12_lawOf 13 = .ok (.aload_n 0, 1) := by decide +kernel
theorem dX12_lawOf_14 : decode cX12_lawOf 14 = .ok (.getfield 81, 3) := by decide +kernel
theorem dX12_lawOf_17 : decode cX12_lawOf 17 = .ok (.iload_n 1, 1) := by decide +kernel
theorem dX12_lawOf_18 : decode cX12_lawOf 18 = .ok (.iaload, 1) := by decide +kernel
theorem dX12_lawOf_19 : decode cX12_lawOf 19 = .ok (.if_icmp .ge 20, 3) := by decide +kernel
theorem dX12_lawOf_22 : decode cX12_lawOf 22 = .ok (.aload_n 0, 1) := by decide +kernel
theorem dX12_lawOf_23 : decode cX12_lawOf 23 = .ok (.getfield 103, 3) := by decide +kernel
theorem dX12_lawOf_26 : decode cX12_lawOf 26 = .ok (.iload_n 2, 1) := by decide +kernel
theorem dX12_lawOf_27 : decode cX12_lawOf 27 = .ok (.aload_n 0, 1) := by decide +kernel
theorem dX12_lawOf_28 : decode cX12_lawOf 28 = .ok (.iload_n 2, 1) := by decide +kernel
theorem dX12_lawOf_29 : decode cX12_lawOf 29 = .ok (.invokevirtual 446, 3) := by decide +kernel
theorem dX12_lawOf_32 : decode cX12_lawOf 32 = .ok (.lastore, 1) := by decide +kernel
theorem dX12_lawOf_33 : decode cX12_lawOf 33 = .ok (.iinc 2 1, 3) := by decide +kernel
theorem dX12_lawOf_36 : decode cX12_lawOf 36 = .ok (.goto (-24), 3) := by decide +kernel
theorem dX12_lawOf_39 : decode cX12_lawOf 39 = .ok (.aload_n 0, 1) := by decide +kernel
theorem dX12_lawOf_40 : decode cX12_lawOf 40 = .ok (.getfield 369, 3) := by decide +kernel
theorem dX12_lawOf_43 : decode cX12_lawOf 43 = .ok (.ifCond .eq 7, 3) := by decide +kernel
theorem dX12_lawOf_46 : decode cX12_lawOf 46 = .ok (.lconst 0, 1) := by decide +kernel
theorem dX12_lawOf_47 : decode cX12_lawOf 47 = .ok (.goto 16, 3) := by decide +kernel
theorem dX12_lawOf_50 : decode cX12_lawOf 50 = .ok (.aload_n 0, 1) := by decide +kernel
theorem dX12_lawOf_51 : decode cX12_lawOf 51 = .ok (.getfield 103, 3) := by decide +kernel
theorem dX12_lawOf_54 : decode cX12_lawOf 54 = .ok (.aload_n 0, 1) := by decide +kernel
theorem dX12_lawOf_55 : decode cX12_lawOf 55 = .ok (.getfield 81, 3) := by decide +kernel
theorem dX12_lawOf_58 : decode cX12_lawOf 58 = .ok (.iload_n 1, 1) := by decide +kernel
theorem dX12_lawOf_59 : decode cX12_lawOf 59 = .ok (.iaload, 1) := by decide +kernel
theorem dX12_lawOf_60 : decode cX12_lawOf 60 = .ok (.iconst 1, 1) := by decide +kernel
theorem dX12_lawOf_61 : decode cX12_lawOf 61 = .ok (.isub, 1) := by decide +kernel
theorem dX12_lawOf_62 : decode cX12_lawOf 62 = .ok (.laload, 1) := by decide +kernel
theorem dX12_lawOf_63 : decode cX12_lawOf 63 = .ok (.lreturn, 1) := by decide +kernel
theorem dX12_boundLaw_0 : decode cX12_boundLaw 0 = .ok (.aload_n 0, 1) := by decide +kernel
theorem dX12_boundLaw_1 : decode cX12_boundLaw 1 = .ok (.getfield 75, 3) := by decide +kernel
theorem dX12_boundLaw_4 : decode cX12_boundLaw 4 = .ok (.iload_n 1, 1) := by decide +kernel
theorem dX12_boundLaw_5 : decode cX12_boundLaw 5 = .ok (.baload, 1) := by decide +kernel
theorem dX12_boundLaw_6 : decode cX12_boundLaw 6 = .ok (.ifCond .ne 5, 3) := by decide +kernel
theorem dX12_boundLaw_9 : decode cX12_boundLaw 9 = .ok (.iload_n 2, 1) := by decide +kernel
theorem dX12_boundLaw_10 : decode cX12_boundLaw 10 = .ok (.ireturn, 1) := by decide +kernel
theorem dX12_boundLaw_11 : decode cX12_boundLaw 11 = .ok (.aload_n 0, 1) := by decide +kernel
theorem dX12_boundLaw_12 : decode cX12_boundLaw 12 = .ok (.iload_n 1, 1) := by decide +kernel
theorem dX12_boundLaw_13 : decode cX12_boundLaw 13 = .ok (.invokevirtual 450, 3) := by decide +kernel
theorem dX12_boundLaw_16 : decode cX12_boundLaw 16 = .ok (.lstore 4, 2) := by decide +kernel
theorem dX12_boundLaw_18 : decode cX12_boundLaw 18 = .ok (.aload_n 0, 1) := by decide +kernel
theorem dX12_boundLaw_19 : decode cX12_boundLaw 19 = .ok (.getfield 369, 3) := by decide +kernel
theorem dX12_boundLaw_22 : decode cX12_boundLaw 22 = .ok (.ifCond .eq 5, 3) := by decide +kernel
theorem dX12_boundLaw_25 : decode cX12_boundLaw 25 = .ok (.iload_n 2, 1) := by decide +kernel
theorem dX12_boundLaw_26 : decode cX12_boundLaw 26 = .ok (.ireturn, 1) := by decide +kernel
theorem dX12_boundLaw_27 : decode cX12_boundLaw 27 = .ok (.lload 4, 2) := by decide +kernel
theorem dX12_boundLaw_29 : decode cX12_boundLaw 29 = .ok (.lconst 0, 1) := by decide +kernel
theorem dX12_boundLaw_30 : decode cX12_boundLaw 30 = .ok (.lcmp, 1) := by decide +kernel
theorem dX12_boundLaw_31 : decode cX12_boundLaw 31 = .ok (.ifCond .ge 7, 3) := by decide +kernel
theorem dX12_boundLaw_34 : decode cX12_boundLaw 34 = .ok (.iconst 0, 1) := by decide +kernel
theorem dX12_boundLaw_35 : decode cX12_boundLaw 35 = .ok (.goto 18, 3) := by decide +kernel
theorem dX12_boundLaw_38 : decode cX12_boundLaw 38 = .ok (.lload 4, 2) := by decide +kernel
theorem dX12_boundLaw_40 : decode cX12_boundLaw 40 = .ok (.iload_n 3, 1) := by decide +kernel
theorem dX12_boundLaw_41 : decode cX12_boundLaw 41 = .ok (.i2l, 1) := by decide +kernel
theorem dX12_boundLaw_42 : decode cX12_boundLaw 42 = .ok (.lcmp, 1) := by decide +kernel
theorem dX12_boundLaw_43 : decode cX12_boundLaw 43 = .ok (.ifCond .le 7, 3) := by decide +kernel
theorem dX12_boundLaw_46 : decode cX12_boundLaw 46 = .ok (.iload_n 3, 1) := by decide +kernel
theorem dX12_boundLaw_47 : decode cX12_boundLaw 47 = .ok (.goto 6, 3) := by decide +kernel
theorem dX12_boundLaw_50 : decode cX12_boundLaw 50 = .ok (.lload 4, 2) := by decide +kernel
theorem dX12_boundLaw_52 : decode cX12_boundLaw 52 = .ok (.l2i, 1) := by decide +kernel
theorem dX12_boundLaw_53 : decode cX12_boundLaw 53 = .ok (.ireturn, 1) := by decide +kernel
theorem dX12_puts_0 : decode cX12_puts 0 = .ok (.bipush 6, 2) := by decide +kernel
theorem dX12_puts_2 : decode cX12_puts 2 = .ok (.iload_n 1, 1) := by decide +kernel
theorem dX12_puts_3 : decode cX12_puts 3 = .ok (.imul, 1) := by decide +kernel
theorem dX12_puts_4 : decode cX12_puts 4 = .ok (.iload_n 2, 1) := by decide +kernel
theorem dX12_puts_5 : decode cX12_puts 5 = .ok (.iadd, 1) := by decide +kernel
theorem dX12_puts_6 : decode cX12_puts 6 = .ok (.istore 5, 2) := by decide +kernel
theorem dX12_puts_8 : decode cX12_puts 8 = .ok (.aload_n 0, 1) := by decide +kernel
theorem dX12_puts_9 : decode cX12_puts 9 = .ok (.getfield 109, 3) := by decide +kernel
theorem dX12_puts_12 : decode cX12_puts 12 = .ok (.bipush 12, 2) := by decide +kernel
theorem dX12_puts_14 : decode cX12_puts 14 = .ok (.iload 5, 2) := by decide +kernel
theorem dX12_puts_16 : decode cX12_puts 16 = .ok (.imul, 1) := by decide +kernel
theorem dX12_puts_17 : decode cX12_puts 17 = .ok (.aload_n 0, 1) := by decide +kernel
theorem dX12_puts_18 : decode cX12_puts 18 = .ok (.getfield 115, 3) := by decide +kernel
theorem dX12_puts_21 : decode cX12_puts 21 = .ok (.iload 5, 2) := by decide +kernel
theorem dX12_puts_23 : decode cX12_puts 23 = .ok (.iaload, 1) := by decide +kernel
theorem dX12_puts_24 : decode cX12_puts 24 = .ok (.iadd, 1) := by decide +kernel
theorem dX12_puts_25 : decode cX12_puts 25 = .ok (.iload_n 3, 1) := by decide +kernel
theorem dX12_puts_26 : decode cX12_puts 26 = .ok (.iastore, 1) := by decide +kernel
theorem dX12_puts_27 : decode cX12_puts 27 = .ok (.aload_n 0, 1) := by decide +kernel
theorem dX12_puts_28 : decode cX12_puts 28 = .ok (.getfield 112, 3) := by decide +kernel
theorem dX12_puts_31 : decode cX12_puts 31 = .ok (.bipush 12, 2) := by decide +kernel
theorem dX12_puts_33 : decode cX12_puts 33 = .ok (.iload 5, 2) := by decide +kernel
theorem dX12_puts_35 : decode cX12_puts 35 = .ok (.imul, 1) := by decide +kernel
theorem dX12_puts_36 : decode cX12_puts 36 = .ok (.aload_n 0, 1) := by decide +kernel
theorem dX12_puts_37 : decode cX12_puts 37 = .ok (.getfield 115, 3) := by decide +kernel
theorem dX12_puts_40 : decode cX12_puts 40 = .ok (.iload 5, 2) := by decide +kernel
theorem dX12_puts_42 : decode cX12_puts 42 = .ok (.iaload, 1) := by decide +kernel
theorem dX12_puts_43 : decode cX12_puts 43 = .ok (.iadd, 1) := by decide +kernel
theorem dX12_puts_44 : decode cX12_puts 44 = .ok (.iload 4, 2) := by decide +kernel
theorem dX12_puts_46 : decode cX12_puts 46 = .ok (.iastore, 1) := by decide +kernel
theorem dX12_puts_47 : decode cX12_puts 47 = .ok (.aload_n 0, 1) := by decide +kernel
theorem dX12_puts_48 : decode cX12_puts 48 = .ok (.getfield 115, 3) := by decide +kernel
theorem dX12_puts_51 : decode cX12_puts 51 = .ok (.iload 5, 2) := by decide +kernel
theorem dX12_puts_53 : decode cX12_puts 53 = .ok (.dup2, 1) := by decide +kernel
theorem dX12_puts_54 : decode cX12_puts 54 = .ok (.iaload, 1) := by decide +kernel
theorem dX12_puts_55 : decode cX12_puts 55 = .ok (.iconst 1, 1) := by decide +kernel
theorem dX12_puts_56 : decode cX12_puts 56 = .ok (.iadd, 1) := by decide +kernel
theorem dX12_puts_57 : decode cX12_puts 57 = .ok (.iastore, 1) := by decide +kernel
theorem dX12_puts_58 : decode cX12_puts 58 = .ok (.return_, 1) := by decide +kernel
theorem dX12_does_0 : decode cX12_does 0 = .ok (.aload_n 0, 1) := by decide +kernel
theorem dX12_does_1 : decode cX12_does 1 = .ok (.getfield 48, 3) := by decide +kernel
theorem dX12_does_4 : decode cX12_does 4 = .ok (.iload_n 2, 1) := by decide +kernel
theorem dX12_does_5 : decode cX12_does 5 = .ok (.iaload, 1) := by decide +kernel
theorem dX12_does_6 : decode cX12_does 6 = .ok (.istore_n 3, 1) := by decide +kernel
theorem dX12_does_7 : decode cX12_does 7 = .ok (.aload_n 0, 1) := by decide +kernel
theorem dX12_does_8 : decode cX12_does 8 = .ok (.getfield 115, 3) := by decide +kernel
theorem dX12_does_11 : decode cX12_does 11 = .ok (.bipush 6, 2) := by decide +kernel
theorem dX12_does_13 : decode cX12_does 13 = .ok (.iload_n 1, 1) := by decide +kernel
theorem dX12_does_14 : decode cX12_does 14 = .ok (.imul, 1) := by decide +kernel
theorem dX12_does_15 : decode cX12_does 15 = .ok (.iload_n 3, 1) := by decide +kernel
theorem dX12_does_16 : decode cX12_does 16 = .ok (.iadd, 1) := by decide +kernel
theorem dX12_does_17 : decode cX12_does 17 = .ok (.iaload, 1) := by decide +kernel
theorem dX12_does_18 : decode cX12_does 18 = .ok (.bipush 12, 2) := by decide +kernel
theorem dX12_does_20 : decode cX12_does 20 = .ok (.if_icmp .ne 14, 3) := by decide +kernel
theorem dX12_does_23 : decode cX12_does 23 = .ok (.aload_n 0, 1) := by decide +kernel
theorem dX12_does_24 : decode cX12_does 24 = .ok (.getfield 130, 3) := by decide +kernel
theorem dX12_does_27 : decode cX12_does 27 = .ok (.iload_n 1, 1) := by decide +kernel
theorem dX12_does_28 : decode cX12_does 28 = .ok (.dup2, 1) := by decide +kernel
theorem dX12_does_29 : decode cX12_does 29 = .ok (.iaload, 1) := by decide +kernel
theorem dX12_does_30 : decode cX12_does 30 = .ok (.iconst 1, 1) := by decide +kernel
theorem dX12_does_31 : decode cX12_does 31 = .ok (.iadd, 1) := by decide +kernel
theorem dX12_does_32 : decode cX12_does 32 = .ok (.iastore, 1) := by decide +kernel
theorem dX12_does_33 : decode cX12_does 33 = .ok (.return_, 1) := by decide +kernel
theorem dX12_does_34 : decode cX12_does 34 = .ok (.aload_n 0, 1) := by decide +kernel
theorem dX12_does_35 : decode cX12_does 35 = .ok (.iload_n 1, 1) := by decide +kernel
theorem dX12_does_36 : decode cX12_does 36 = .ok (.iload_n 2, 1) := by decide +kernel
theorem dX12_does_37 : decode cX12_does 37 = .ok (.invokevirtual 453, 3) := by decide +kernel
theorem dX12_does_40 : decode cX12_does 40 = .ok (.aload_n 0, 1) := by decide +kernel
theorem dX12_does_41 : decode cX12_does 41 = .ok (.iload_n 1, 1) := by decide +kernel
theorem dX12_does_42 : decode cX12_does 42 = .ok (.iload_n 3, 1) := by decide +kernel
theorem dX12_does_43 : decode cX12_does 43 = .ok (.aload_n 0, 1) := by decide +kernel
theorem dX12_does_44 : decode cX12_does 44 = .ok (.getfield 51, 3) := by decide +kernel
theorem dX12_does_47 : decode cX12_does 47 = .ok (.iload_n 2, 1) := by decide +kernel
theorem dX12_does_48 : decode cX12_does 48 = .ok (.iaload, 1) := by decide +kernel
theorem dX12_does_49 : decode cX12_does 49 = .ok (.aload_n 0, 1) := by decide +kernel
theorem dX12_does_50 : decode cX12_does 50 = .ok (.getfield 57, 3) := by decide +kernel
theorem dX12_does_53 : decode cX12_does 53 = .ok (.iload_n 2, 1) := by decide +kernel
theorem dX12_does_54 : decode cX12_does 54 = .ok (.iaload, 1) := by decide +kernel
theorem dX12_does_55 : decode cX12_does 55 = .ok (.aload_n 0, 1) := by decide +kernel
theorem dX12_does_56 : decode cX12_does 56 = .ok (.iconst 0, 1) := by decide +kernel
theorem dX12_does_57 : decode cX12_does 57 = .ok (.aload_n 0, 1) := by decide +kernel
theorem dX12_does_58 : decode cX12_does 58 = .ok (.getfield 54, 3) := by decide +kernel
theorem dX12_does_61 : decode cX12_does 61 = .ok (.iload_n 2, 1) := by decide +kernel
theorem dX12_does_62 : decode cX12_does 62 = .ok (.iaload, 1) := by decide +kernel
theorem dX12_does_63 : decode cX12_does 63 = .ok (.bipush 20, 2) := by decide +kernel
theorem dX12_does_65 : decode cX12_does 65 = .ok (.invokevirtual 456, 3) := by decide +kernel
theorem dX12_does_68 : decode cX12_does 68 = .ok (.imul, 1) := by decide +kernel
theorem dX12_does_69 : decode cX12_does 69 = .ok (.invokevirtual 459, 3) := by decide +kernel
theorem dX12_does_72 : decode cX12_does 72 = .ok (.return_, 1) := by decide +kernel
theorem dX12_weds2_0 : decode cX12_weds2 0 = .ok (.bipush 8, 2) := by decide +kernel
theorem dX12_weds2_2 : decode cX12_weds2 2 = .ok (.iload_n 1, 1) := by decide +kernel
theorem dX12_weds2_3 : decode cX12_weds2 3 = .ok (.imul, 1) := by decide +kernel
theorem dX12_weds2_4 : decode cX12_weds2 4 = .ok (.aload_n 0, 1) := by decide +kernel
theorem dX12_weds2_5 : decode cX12_weds2 5 = .ok (.getfield 63, 3) := by decide +kernel
theorem dX12_weds2_8 : decode cX12_weds2 8 = .ok (.iload_n 2, 1) := by decide +kernel
theorem dX12_weds2_9 : decode cX12_weds2 9 = .ok (.iaload, 1) := by decide +kernel
theorem dX12_weds2_10 : decode cX12_weds2 10 = .ok (.iadd, 1) := by decide +kernel
theorem dX12_weds2_11 : decode cX12_weds2 11 = .ok (.istore_n 3, 1) := by decide +kernel
theorem dX12_weds2_12 : decode cX12_weds2 12 = .ok (.bipush 8, 2) := by decide +kernel
theorem dX12_weds2_14 : decode cX12_weds2 14 = .ok (.iload_n 1, 1) := by decide +kernel
theorem dX12_weds2_15 : decode cX12_weds2 15 = .ok (.imul, 1) := by decide +kernel
theorem dX12_weds2_16 : decode cX12_weds2 16 = .ok (.aload_n 0, 1) := by decide +kernel
theorem dX12_weds2_17 : decode cX12_weds2 17 = .ok (.getfield 66, 3) := by decide +kernel
theorem dX12_weds2_20 : decode cX12_weds2 20 = .ok (.iload_n 2, 1) := by decide +kernel
theorem dX12_weds2_21 : decode cX12_weds2 21 = .ok (.iaload, 1) := by decide +kernel
theorem dX12_weds2_22 : decode cX12_weds2 22 = .ok (.iadd, 1) := by decide +kernel
theorem dX12_weds2_23 : decode cX12_weds2 23 = .ok (.istore 4, 2) := by decide +kernel
theorem dX12_weds2_25 : decode cX12_weds2 25 = .ok (.aload_n 0, 1) := by decide +kernel
theorem dX12_weds2_26 : decode cX12_weds2 26 = .ok (.getfield 127, 3) := by decide +kernel
theorem dX12_weds2_29 : decode cX12_weds2 29 = .ok (.iload_n 3, 1) := by decide +kernel
theorem dX12_weds2_30 : decode cX12_weds2 30 = .ok (.baload, 1) := by decide +kernel
theorem dX12_weds2_31 : decode cX12_weds2 31 = .ok (.ifCond .ne 29, 3) := by decide +kernel
theorem dX12_weds2_34 : decode cX12_weds2 34 = .ok (.aload_n 0, 1) := by decide +kernel
theorem dX12_weds2_35 : decode cX12_weds2 35 = .ok (.getfield 127, 3) := by decide +kernel
theorem dX12_weds2_38 : decode cX12_weds2 38 = .ok (.iload 4, 2) := by decide +kernel
theorem dX12_weds2_40 : decode cX12_weds2 40 = .ok (.baload, 1) := by decide +kernel
theorem dX12_weds2_41 : decode cX12_weds2 41 = .ok (.ifCond .ne 19, 3) := by decide +kernel
theorem dX12_weds2_44 : decode cX12_weds2 44 = .ok (.aload_n 0, 1) := by decide +kernel
theorem dX12_weds2_45 : decode cX12_weds2 45 = .ok (.getfield 118, 3) := by decide +kernel
theorem dX12_weds2_48 : decode cX12_weds2 48 = .ok (.iload_n 3, 1) := by decide +kernel
theorem dX12_weds2_49 : decode cX12_weds2 49 = .ok (.iaload, 1) := by decide +kernel
theorem dX12_weds2_50 : decode cX12_weds2 50 = .ok (.aload_n 0, 1) := by decide +kernel
theorem dX12_weds2_51 : decode cX12_weds2 51 = .ok (.getfield 118, 3) := by decide +kernel
theorem dX12_weds2_54 : decode cX12_weds2 54 = .ok (.iload 4, 2) := by decide +kernel
theorem dX12_weds2_56 : decode cX12_weds2 56 = .ok (.iaload, 1) := by decide +kernel
theorem dX12_weds2_57 : decode cX12_weds2 57 = .ok (.if_icmp .ne 14, 3) := by decide +kernel
theorem dX12_weds2_60 : decode cX12_weds2 60 = .ok (.aload_n 0, 1) := by decide +kernel
theorem dX12_weds2_61 : decode cX12_weds2 61 = .ok (.getfield 130, 3) := by decide +kernel
theorem dX12_weds2_64 : decode cX12_weds2 64 = .ok (.iload_n 1, 1) := by decide +kernel
theorem dX12_weds2_65 : decode cX12_weds2 65 = .ok (.dup2, 1) := by decide +kernel
theorem dX12_weds2_66 : decode cX12_weds2 66 = .ok (.iaload, 1) := by decide +kernel
theorem dX12_weds2_67 : decode cX12_weds2 67 = .ok (.iconst 1, 1) := by decide +kernel
theorem dX12_weds2_68 : decode cX12_weds2 68 = .ok (.iadd, 1) := by decide +kernel
theorem dX12_weds2_69 : decode cX12_weds2 69 = .ok (.iastore, 1) := by decide +kernel
theorem dX12_weds2_70 : decode cX12_weds2 70 = .ok (.return_, 1) := by decide +kernel
theorem dX12_weds2_71 : decode cX12_weds2 71 = .ok (.aload_n 0, 1) := by decide +kernel
theorem dX12_weds2_72 : decode cX12_weds2 72 = .ok (.getfield 127, 3) := by decide +kernel
theorem dX12_weds2_75 : decode cX12_weds2 75 = .ok (.iload_n 3, 1) := by decide +kernel
theorem dX12_weds2_76 : decode cX12_weds2 76 = .ok (.iconst 1, 1) := by decide +kernel
theorem dX12_weds2_77 : decode cX12_weds2 77 = .ok (.bastore, 1) := by decide +kernel
theorem dX12_weds2_78 : decode cX12_weds2 78 = .ok (.aload_n 0, 1) := by decide +kernel
theorem dX12_weds2_79 : decode cX12_weds2 79 = .ok (.getfield 127, 3) := by decide +kernel
theorem dX12_weds2_82 : decode cX12_weds2 82 = .ok (.iload 4, 2) := by decide +kernel
theorem dX12_weds2_84 : decode cX12_weds2 84 = .ok (.iconst 1, 1) := by decide +kernel
theorem dX12_weds2_85 : decode cX12_weds2 85 = .ok (.bastore, 1) := by decide +kernel
theorem dX12_weds2_86 : decode cX12_weds2 86 = .ok (.aload_n 0, 1) := by decide +kernel
theorem dX12_weds2_87 : decode cX12_weds2 87 = .ok (.getfield 118, 3) := by decide +kernel
theorem dX12_weds2_90 : decode cX12_weds2 90 = .ok (.iload_n 3, 1) := by decide +kernel
theorem dX12_weds2_91 : decode cX12_weds2 91 = .ok (.iaload, 1) := by decide +kernel
theorem dX12_weds2_92 : decode cX12_weds2 92 = .ok (.istore 5, 2) := by decide +kernel
theorem dX12_weds2_94 : decode cX12_weds2 94 = .ok (.iconst 0, 1) := by decide +kernel
theorem dX12_weds2_95 : decode cX12_weds2 95 = .ok (.istore 6, 2) := by decide +kernel
theorem dX12_weds2_97 : decode cX12_weds2 97 = .ok (.iload 6, 2) := by decide +kernel
theorem dX12_weds2_99 : decode cX12_weds2 99 = .ok (.bipush 8, 2) := by decide +kernel
theorem dX12_weds2_101 : decode cX12_weds2 101 = .ok (.if_icmp .ge 53, 3) := by decide +kernel
theorem dX12_weds2_104 : decode cX12_weds2 104 = .ok (.aload_n 0, 1) := by decide +kernel
theorem dX12_weds2_105 : decode cX12_weds2 105 = .ok (.getfield 106, 3) := by decide +kernel
theorem dX12_weds2_108 : decode cX12_weds2 108 = .ok (.bipush 8, 2) := by decide +kernel
theorem dX12_weds2_110 : decode cX12_weds2 110 = .ok (.bipush 6, 2) := by decide +kernel
theorem dX12_weds2_112 : decode cX12_weds2 112 = .ok (.iload_n 1, 1) := by decide +kernel
theorem dX12_weds2_113 : decode cX12_weds2 113 = .ok (.imul, 1) := by decide +kernel
theorem dX12_weds2_114 : decode cX12_weds2 114 = .ok (.iload 5, 2) := by decide +kernel
theorem dX12_weds2_116 : decode cX12_weds2 116 = .ok (.iadd, 1) := by decide +kernel
theorem dX12_weds2_117 : decode cX12_weds2 117 = .ok (.imul, 1) := by decide +kernel
theorem dX12_weds2_118 : decode cX12_weds2 118 = .ok (.iload 6, 2) := by decide +kernel
theorem dX12_weds2_120 : decode cX12_weds2 120 = .ok (.iadd, 1) := by decide +kernel
theorem dX12_weds2_121 : decode cX12_weds2 121 = .ok (.aload_n 0, 1) := by decide +kernel
theorem dX12_weds2_122 : decode cX12_weds2 122 = .ok (.iload_n 1, 1) := by decide +kernel
theorem dX12_weds2_123 : decode cX12_weds2 123 = .ok (.iload 5, 2) := by decide +kernel
theorem dX12_weds2_125 : decode cX12_weds2 125 = .ok (.iload 6, 2) := by decide +kernel
theorem dX12_weds2_127 : decode cX12_weds2 127 = .ok (.invokevirtual 440, 3) := by decide +kernel
theorem dX12_weds2_130 : decode cX12_weds2 130 = .ok (.aload_n 0, 1) := by decide +kernel
theorem dX12_weds2_131 : decode cX12_weds2 131 = .ok (.iload_n 1, 1) := by decide +kernel
theorem dX12_weds2_132 : decode cX12_weds2 132 = .ok (.aload_n 0, 1) := by decide +kernel
theorem dX12_weds2_133 : decode cX12_weds2 133 = .ok (.getfield 118, 3) := by decide +kernel
theorem dX12_weds2_136 : decode cX12_weds2 136 = .ok (.iload 4, 2) := by decide +kernel
theorem dX12_weds2_138 : decode cX12_weds2 138 = .ok (.iaload, 1) := by decide +kernel
theorem dX12_weds2_139 : decode cX12_weds2 139 = .ok (.iload 6, 2) := by decide +kernel
theorem dX12_weds2_141 : decode cX12_weds2 141 = .ok (.invokevirtual 440, 3) := by decide +kernel
theorem dX12_weds2_144 : decode cX12_weds2 144 = .ok (.iadd, 1) := by decide +kernel
theorem dX12_weds2_145 : decode cX12_weds2 145 = .ok (.iconst 2, 1) := by decide +kernel
theorem dX12_weds2_146 : decode cX12_weds2 146 = .ok (.idiv, 1) := by decide +kernel
theorem dX12_weds2_147 : decode cX12_weds2 147 = .ok (.iastore, 1) := by decide +kernel
theorem dX12_weds2_148 : decode cX12_weds2 148 = .ok (.iinc 6 1, 3) := by decide +kernel
theorem dX12_weds2_151 : decode cX12_weds2 151 = .ok (.goto (-54), 3) := by decide +kernel
theorem dX12_weds2_154 : decode cX12_weds2 154 = .ok (.aload_n 0, 1) := by decide +kernel
theorem dX12_weds2_155 : decode cX12_weds2 155 = .ok (.getfield 115, 3) := by decide +kernel
theorem dX12_weds2_158 : decode cX12_weds2 158 = .ok (.bipush 6, 2) := by decide +kernel
theorem dX12_weds2_160 : decode cX12_weds2 160 = .ok (.iload_n 1, 1) := by decide +kernel
theorem dX12_weds2_161 : decode cX12_weds2 161 = .ok (.imul, 1) := by decide +kernel
theorem dX12_weds2_162 : decode cX12_weds2 162 = .ok (.iload 5, 2) := by decide +kernel
theorem dX12_weds2_164 : decode cX12_weds2 164 = .ok (.iadd, 1) := by decide +kernel
theorem dX12_weds2_165 : decode cX12_weds2 165 = .ok (.iconst 0, 1) := by decide +kernel
