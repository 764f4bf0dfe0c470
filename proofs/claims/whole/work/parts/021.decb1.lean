theorem dX11_fitsWhatIsKnown_1 : decode cX11_fitsWhatIsKnown 1 = .ok (.getfield 37, 3) := by decide +kernel
theorem dX11_fitsWhatIsKnown_4 : decode cX11_fitsWhatIsKnown 4 = .ok (.aload_n 0, 1) := by decide +kernel
theorem dX11_fitsWhatIsKnown_5 : decode cX11_fitsWhatIsKnown 5 = .ok (.getfield 23, 3) := by decide +kernel
theorem dX11_fitsWhatIsKnown_8 : decode cX11_fitsWhatIsKnown 8 = .ok (.invokevirtual 87, 3) := by decide +kernel
theorem dX11_fitsWhatIsKnown_11 : decode cX11_fitsWhatIsKnown 11 = .ok (.aload_n 0, 1) := by decide +kernel
theorem dX11_fitsWhatIsKnown_12 : decode cX11_fitsWhatIsKnown 12 = .ok (.getfield 37, 3) := by decide +kernel
theorem dX11_fitsWhatIsKnown_15 : decode cX11_fitsWhatIsKnown 15 = .ok (.getfield 144, 3) := by decide +kernel
theorem dX11_fitsWhatIsKnown_18 : decode cX11_fitsWhatIsKnown 18 = .ok (.iload_n 1, 1) := by decide +kernel
theorem dX11_fitsWhatIsKnown_19 : decode cX11_fitsWhatIsKnown 19 = .ok (.iload_n 2, 1) := by decide +kernel
theorem dX11_fitsWhatIsKnown_20 : decode cX11_fitsWhatIsKnown 20 = .ok (.iastore, 1) := by decide +kernel
theorem dX11_fitsWhatIsKnown_21 : decode cX11_fitsWhatIsKnown 21 = .ok (.aload_n 0, 1) := by decide +kernel
theorem dX11_fitsWhatIsKnown_22 : decode cX11_fitsWhatIsKnown 22 = .ok (.getfield 50, 3) := by decide +kernel
theorem dX11_fitsWhatIsKnown_25 : decode cX11_fitsWhatIsKnown 25 = .ok (.invokevirtual 353, 3) := by decide +kernel
theorem dX11_fitsWhatIsKnown_28 : decode cX11_fitsWhatIsKnown 28 = .ok (.istore_n 3, 1) := by decide +kernel
theorem dX11_fitsWhatIsKnown_29 : decode cX11_fitsWhatIsKnown 29 = .ok (.iconst 1, 1) := by decide +kernel
theorem dX11_fitsWhatIsKnown_30 : decode cX11_fitsWhatIsKnown 30 = .ok (.istore 4, 2) := by decide +kernel
theorem dX11_fitsWhatIsKnown_32 : decode cX11_fitsWhatIsKnown 32 = .ok (.iload 4, 2) := by decide +kernel
theorem dX11_fitsWhatIsKnown_34 : decode cX11_fitsWhatIsKnown 34 = .ok (.iload_n 3, 1) := by decide +kernel
theorem dX11_fitsWhatIsKnown_35 : decode cX11_fitsWhatIsKnown 35 = .ok (.if_icmp .gt 43, 3) := by decide +kernel
theorem dX11_fitsWhatIsKnown_38 : decode cX11_fitsWhatIsKnown 38 = .ok (.aload_n 0, 1) := by decide +kernel
theorem dX11_fitsWhatIsKnown_39 : decode cX11_fitsWhatIsKnown 39 = .ok (.getfield 43, 3) := by decide +kernel
theorem dX11_fitsWhatIsKnown_42 : decode cX11_fitsWhatIsKnown 42 = .ok (.aload_n 0, 1) := by decide +kernel
theorem dX11_fitsWhatIsKnown_43 : decode cX11_fitsWhatIsKnown 43 = .ok (.getfield 23, 3) := by decide +kernel
theorem dX11_fitsWhatIsKnown_46 : decode cX11_fitsWhatIsKnown 46 = .ok (.aload_n 0, 1) := by decide +kernel
theorem dX11_fitsWhatIsKnown_47 : decode cX11_fitsWhatIsKnown 47 = .ok (.getfield 37, 3) := by decide +kernel
theorem dX11_fitsWhatIsKnown_50 : decode cX11_fitsWhatIsKnown 50 = .ok (.iconst 5, 1) := by decide +kernel
theorem dX11_fitsWhatIsKnown_51 : decode cX11_fitsWhatIsKnown 51 = .ok (.invokevirtual 272, 3) := by decide +kernel
theorem dX11_fitsWhatIsKnown_54 : decode cX11_fitsWhatIsKnown 54 = .ok (.aload_n 0, 1) := by decide +kernel
theorem dX11_fitsWhatIsKnown_55 : decode cX11_fitsWhatIsKnown 55 = .ok (.getfield 50, 3) := by decide +kernel
theorem dX11_fitsWhatIsKnown_58 : decode cX11_fitsWhatIsKnown 58 = .ok (.iload 4, 2) := by decide +kernel
theorem dX11_fitsWhatIsKnown_60 : decode cX11_fitsWhatIsKnown 60 = .ok (.aload_n 0, 1) := by decide +kernel
theorem dX11_fitsWhatIsKnown_61 : decode cX11_fitsWhatIsKnown 61 = .ok (.getfield 37, 3) := by decide +kernel
theorem dX11_fitsWhatIsKnown_64 : decode cX11_fitsWhatIsKnown 64 = .ok (.invokevirtual 356, 3) := by decide +kernel
theorem dX11_fitsWhatIsKnown_67 : decode cX11_fitsWhatIsKnown 67 = .ok (.ifCond .ne 5, 3) := by decide +kernel
theorem dX11_fitsWhatIsKnown_70 : decode cX11_fitsWhatIsKnown 70 = .ok (.iconst 0, 1) := by decide +kernel
theorem dX11_fitsWhatIsKnown_71 : decode cX11_fitsWhatIsKnown 71 = .ok (.ireturn, 1) := by decide +kernel
theorem dX11_fitsWhatIsKnown_72 : decode cX11_fitsWhatIsKnown 72 = .ok (.iinc 4 1, 3) := by decide +kernel
theorem dX11_fitsWhatIsKnown_75 : decode cX11_fitsWhatIsKnown 75 = .ok (.goto (-43), 3) := by decide +kernel
theorem dX11_fitsWhatIsKnown_78 : decode cX11_fitsWhatIsKnown 78 = .ok (.iconst 1, 1) := by decide +kernel
theorem dX11_fitsWhatIsKnown_79 : decode cX11_fitsWhatIsKnown 79 = .ok (.ireturn, 1) := by decide +kernel
theorem dX11_ask_0 : decode cX11_ask 0 = .ok (.aload_n 0, 1) := by decide +kernel
theorem dX11_ask_1 : decode cX11_ask 1 = .ok (.iload_n 1, 1) := by decide +kernel
theorem dX11_ask_2 : decode cX11_ask 2 = .ok (.invokevirtual 125, 3) := by decide +kernel
theorem dX11_ask_5 : decode cX11_ask 5 = .ok (.ifCond .eq 23, 3) := by decide +kernel
theorem dX11_ask_8 : decode cX11_ask 8 = .ok (.iload_n 2, 1) := by decide +kernel
theorem dX11_ask_9 : decode cX11_ask 9 = .ok (.iconst 1, 1) := by decide +kernel
theorem dX11_ask_10 : decode cX11_ask 10 = .ok (.if_icmp .lt 18, 3) := by decide +kernel
theorem dX11_ask_13 : decode cX11_ask 13 = .ok (.iload_n 2, 1) := by decide +kernel
theorem dX11_ask_14 : decode cX11_ask 14 = .ok (.bipush 60, 2) := by decide +kernel
theorem dX11_ask_16 : decode cX11_ask 16 = .ok (.if_icmp .gt 12, 3) := by decide +kernel
theorem dX11_ask_19 : decode cX11_ask 19 = .ok (.iload_n 3, 1) := by decide +kernel
theorem dX11_ask_20 : decode cX11_ask 20 = .ok (.ifCond .lt 8, 3) := by decide +kernel
theorem dX11_ask_23 : decode cX11_ask 23 = .ok (.iload_n 3, 1) := by decide +kernel
theorem dX11_ask_24 : decode cX11_ask 24 = .ok (.iconst 1, 1) := by decide +kernel
theorem dX11_ask_25 : decode cX11_ask 25 = .ok (.if_icmp .le 5, 3) := by decide +kernel
theorem dX11_ask_28 : decode cX11_ask 28 = .ok (.iconst (-1), 1) := by decide +kernel
theorem dX11_ask_29 : decode cX11_ask 29 = .ok (.ireturn, 1) := by decide +kernel
theorem dX11_ask_30 : decode cX11_ask 30 = .ok (.aload_n 0, 1) := by decide +kernel
theorem dX11_ask_31 : decode cX11_ask 31 = .ok (.getfield 64, 3) := by decide +kernel
theorem dX11_ask_34 : decode cX11_ask 34 = .ok (.getfield 360, 3) := by decide +kernel
theorem dX11_ask_37 : decode cX11_ask 37 = .ok (.astore 4, 2) := by decide +kernel
theorem dX11_ask_39 : decode cX11_ask 39 = .ok (.aload_n 0, 1) := by decide +kernel
theorem dX11_ask_40 : decode cX11_ask 40 = .ok (.iload_n 1, 1) := by decide +kernel
theorem dX11_ask_41 : decode cX11_ask 41 = .ok (.iload_n 2, 1) := by decide +kernel
theorem dX11_ask_42 : decode cX11_ask 42 = .ok (.aload_n 0, 1) := by decide +kernel
theorem dX11_ask_43 : decode cX11_ask 43 = .ok (.iload_n 1, 1) := by decide +kernel
theorem dX11_ask_44 : decode cX11_ask 44 = .ok (.invokevirtual 344, 3) := by decide +kernel
theorem dX11_ask_47 : decode cX11_ask 47 = .ok (.invokevirtual 363, 3) := by decide +kernel
theorem dX11_ask_50 : decode cX11_ask 50 = .ok (.istore 5, 2) := by decide +kernel
theorem dX11_ask_52 : decode cX11_ask 52 = .ok (.iconst 1, 1) := by decide +kernel
theorem dX11_ask_53 : decode cX11_ask 53 = .ok (.istore 6, 2) := by decide +kernel
theorem dX11_ask_55 : decode cX11_ask 55 = .ok (.iload 5, 2) := by decide +kernel
theorem dX11_ask_57 : decode cX11_ask 57 = .ok (.istore 7, 2) := by decide +kernel
theorem dX11_ask_59 : decode cX11_ask 59 = .ok (.aload 4, 2) := by decide +kernel
theorem dX11_ask_61 : decode cX11_ask 61 = .ok (.iconst 0, 1) := by decide +kernel
theorem dX11_ask_62 : decode cX11_ask 62 = .ok (.iaload, 1) := by decide +kernel
theorem dX11_ask_63 : decode cX11_ask 63 = .ok (.istore 8, 2) := by decide +kernel
theorem dX11_ask_65 : decode cX11_ask 65 = .ok (.iconst 1, 1) := by decide +kernel
theorem dX11_ask_66 : decode cX11_ask 66 = .ok (.istore 9, 2) := by decide +kernel
theorem dX11_ask_68 : decode cX11_ask 68 = .ok (.iload 9, 2) := by decide +kernel
theorem dX11_ask_70 : decode cX11_ask 70 = .ok (.bipush 60, 2) := by decide +kernel
theorem dX11_ask_72 : decode cX11_ask 72 = .ok (.if_icmp .gt 52, 3) := by decide +kernel
theorem dX11_ask_75 : decode cX11_ask 75 = .ok (.iload 8, 2) := by decide +kernel
theorem dX11_ask_77 : decode cX11_ask 77 = .ok (.iload 5, 2) := by decide +kernel
theorem dX11_ask_79 : decode cX11_ask 79 = .ok (.iload 8, 2) := by decide +kernel
theorem dX11_ask_81 : decode cX11_ask 81 = .ok (.isub, 1) := by decide +kernel
theorem dX11_ask_82 : decode cX11_ask 82 = .ok (.invokestatic 366, 3) := by decide +kernel
theorem dX11_ask_85 : decode cX11_ask 85 = .ok (.istore 10, 2) := by decide +kernel
theorem dX11_ask_87 : decode cX11_ask 87 = .ok (.iload 9, 2) := by decide +kernel
theorem dX11_ask_89 : decode cX11_ask 89 = .ok (.iconst 1, 1) := by decide +kernel
theorem dX11_ask_90 : decode cX11_ask 90 = .ok (.if_icmp .eq 10, 3) := by decide +kernel
theorem dX11_ask_93 : decode cX11_ask 93 = .ok (.iload 10, 2) := by decide +kernel
theorem dX11_ask_95 : decode cX11_ask 95 = .ok (.iload 7, 2) := by decide +kernel
theorem dX11_ask_97 : decode cX11_ask 97 = .ok (.if_icmp .ge 11, 3) := by decide +kernel
theorem dX11_ask_100 : decode cX11_ask 100 = .ok (.iload 9, 2) := by decide +kernel
theorem dX11_ask_102 : decode cX11_ask 102 = .ok (.istore 6, 2) := by decide +kernel
theorem dX11_ask_104 : decode cX11_ask 104 = .ok (.iload 10, 2) := by decide +kernel
theorem dX11_ask_106 : decode cX11_ask 106 = .ok (.istore 7, 2) := by decide +kernel
theorem dX11_ask_108 : decode cX11_ask 108 = .ok (.iload 8, 2) := by decide +kernel
theorem dX11_ask_110 : decode cX11_ask 110 = .ok (.aload 4, 2) := by decide +kernel
theorem dX11_ask_112 : decode cX11_ask 112 = .ok (.iload 9, 2) := by decide +kernel
theorem dX11_ask_114 : decode cX11_ask 114 = .ok (.iaload, 1) := by decide +kernel
theorem dX11_ask_115 : decode cX11_ask 115 = .ok (.iadd, 1) := by decide +kernel
theorem dX11_ask_116 : decode cX11_ask 116 = .ok (.istore 8, 2) := by decide +kernel
theorem dX11_ask_118 : decode cX11_ask 118 = .ok (.iinc 9 1, 3) := by decide +kernel
theorem dX11_ask_121 : decode cX11_ask 121 = .ok (.goto (-53), 3) := by decide +kernel
theorem dX11_ask_124 : decode cX11_ask 124 = .ok (.iload_n 3, 1) := by decide +kernel
theorem dX11_ask_125 : decode cX11_ask 125 = .ok (.ifCond .ne 8, 3) := by decide +kernel
theorem dX11_ask_128 : decode cX11_ask 128 = .ok (.iload 6, 2) := by decide +kernel
theorem dX11_ask_130 : decode cX11_ask 130 = .ok (.goto 5, 3) := by decide +kernel
theorem dX11_ask_133 : decode cX11_ask 133 = .ok (.iload 7, 2) := by decide +kernel
theorem dX11_ask_135 : decode cX11_ask 135 = .ok (.ireturn, 1) := by decide +kernel
theorem dX11_countByCorns_0 : decode cX11_countByCorns 0 = .ok (.aload_n 0, 1) := by decide +kernel
theorem dX11_countByCorns_1 : decode cX11_countByCorns 1 = .ok (.getfield 64, 3) := by decide +kernel
theorem dX11_countByCorns_4 : decode cX11_countByCorns 4 = .ok (.getfield 360, 3) := by decide +kernel
theorem dX11_countByCorns_7 : decode cX11_countByCorns 7 = .ok (.astore 4, 2) := by decide +kernel
theorem dX11_countByCorns_9 : decode cX11_countByCorns 9 = .ok (.aload 4, 2) := by decide +kernel
theorem dX11_countByCorns_11 : decode cX11_countByCorns 11 = .ok (.iconst 0, 1) := by decide +kernel
theorem dX11_countByCorns_12 : decode cX11_countByCorns 12 = .ok (.invokestatic 369, 3) := by decide +kernel
theorem dX11_countByCorns_15 : decode cX11_countByCorns 15 = .ok (.iconst 0, 1) := by decide +kernel
theorem dX11_countByCorns_16 : decode cX11_countByCorns 16 = .ok (.istore 5, 2) := by decide +kernel
theorem dX11_countByCorns_18 : decode cX11_countByCorns 18 = .ok (.iconst 0, 1) := by decide +kernel
theorem dX11_countByCorns_19 : decode cX11_countByCorns 19 = .ok (.istore 6, 2) := by decide +kernel
theorem dX11_countByCorns_21 : decode cX11_countByCorns 21 = .ok (.iload 6, 2) := by decide +kernel
theorem dX11_countByCorns_23 : decode cX11_countByCorns 23 = .ok (.bipush 20, 2) := by decide +kernel
theorem dX11_countByCorns_25 : decode cX11_countByCorns 25 = .ok (.if_icmp .gt 71, 3) := by decide +kernel
theorem dX11_countByCorns_28 : decode cX11_countByCorns 28 = .ok (.iload_n 3, 1) := by decide +kernel
theorem dX11_countByCorns_29 : decode cX11_countByCorns 29 = .ok (.iload 6, 2) := by decide +kernel
theorem dX11_countByCorns_31 : decode cX11_countByCorns 31 = .ok (.ishr, 1) := by decide +kernel
theorem dX11_countByCorns_32 : decode cX11_countByCorns 32 = .ok (.iconst 1, 1) := by decide +kernel
theorem dX11_countByCorns_33 : decode cX11_countByCorns 33 = .ok (.iand, 1) := by decide +kernel
theorem dX11_countByCorns_34 : decode cX11_countByCorns 34 = .ok (.iconst 1, 1) := by decide +kernel
theorem dX11_countByCorns_35 : decode cX11_countByCorns 35 = .ok (.if_icmp .ne 55, 3) := by decide +kernel
theorem dX11_countByCorns_38 : decode cX11_countByCorns 38 = .ok (.aload_n 0, 1) := by decide +kernel
theorem dX11_countByCorns_39 : decode cX11_countByCorns 39 = .ok (.getfield 37, 3) := by decide +kernel
theorem dX11_countByCorns_42 : decode cX11_countByCorns 42 = .ok (.aload_n 0, 1) := by decide +kernel
theorem dX11_countByCorns_43 : decode cX11_countByCorns 43 = .ok (.getfield 23, 3) := by decide +kernel
theorem dX11_countByCorns_46 : decode cX11_countByCorns 46 = .ok (.invokevirtual 87, 3) := by decide +kernel
theorem dX11_countByCorns_49 : decode cX11_countByCorns 49 = .ok (.aload_n 0, 1) := by decide +kernel
theorem dX11_countByCorns_50 : decode cX11_countByCorns 50 = .ok (.getfield 37, 3) := by decide +kernel
theorem dX11_countByCorns_53 : decode cX11_countByCorns 53 = .ok (.getfield 144, 3) := by decide +kernel
theorem dX11_countByCorns_56 : decode cX11_countByCorns 56 = .ok (.iload_n 1, 1) := by decide +kernel
theorem dX11_countByCorns_57 : decode cX11_countByCorns 57 = .ok (.iload 6, 2) := by decide +kernel
theorem dX11_countByCorns_59 : decode cX11_countByCorns 59 = .ok (.iastore, 1) := by decide +kernel
theorem dX11_countByCorns_60 : decode cX11_countByCorns 60 = .ok (.aload_n 0, 1) := by decide +kernel
theorem dX11_countByCorns_61 : decode cX11_countByCorns 61 = .ok (.iload_n 2, 1) := by decide +kernel
theorem dX11_countByCorns_62 : decode cX11_countByCorns 62 = .ok (.iconst 5, 1) := by decide +kernel
theorem dX11_countByCorns_63 : decode cX11_countByCorns 63 = .ok (.invokevirtual 276, 3) := by decide +kernel
theorem dX11_countByCorns_66 : decode cX11_countByCorns 66 = .ok (.aload 4, 2) := by decide +kernel
theorem dX11_countByCorns_68 : decode cX11_countByCorns 68 = .ok (.aload_n 0, 1) := by decide +kernel
theorem dX11_countByCorns_69 : decode cX11_countByCorns 69 = .ok (.getfield 37, 3) := by decide +kernel
theorem dX11_countByCorns_72 : decode cX11_countByCorns 72 = .ok (.getfield 147, 3) := by decide +kernel
theorem dX11_countByCorns_75 : decode cX11_countByCorns 75 = .ok (.iload_n 1, 1) := by decide +kernel
theorem dX11_countByCorns_76 : decode cX11_countByCorns 76 = .ok (.iaload, 1) := by decide +kernel
theorem dX11_countByCorns_77 : decode cX11_countByCorns 77 = .ok (.bipush 60, 2) := by decide +kernel
theorem dX11_countByCorns_79 : decode cX11_countByCorns 79 = .ok (.invokestatic 304, 3) := by decide +kernel
theorem dX11_countByCorns_82 : decode cX11_countByCorns 82 = .ok (.dup2, 1) := by decide +kernel
theorem dX11_countByCorns_83 : decode cX11_countByCorns 83 = .ok (.iaload, 1) := by decide +kernel
theorem dX11_countByCorns_84 : decode cX11_countByCorns 84 = .ok (.iconst 1, 1) := by decide +kernel
theorem dX11_countByCorns_85 : decode cX11_countByCorns 85 = .ok (.iadd, 1) := by decide +kernel
theorem dX11_countByCorns_86 : decode cX11_countByCorns 86 = .ok (.iastore, 1) := by decide +kernel
theorem dX11_countByCorns_87 : decode cX11_countByCorns 87 = .ok (.iinc 5 1, 3) := by decide +kernel
theorem dX11_countByCorns_90 : decode cX11_countByCorns 90 = .ok (.iinc 6 1, 3) := by decide +kernel
theorem dX11_countByCorns_93 : decode cX11_countByCorns 93 = .ok (.goto (-72), 3) := by decide +kernel
theorem dX11_countByCorns_96 : decode cX11_countByCorns 96 = .ok (.iload 5, 2) := by decide +kernel
theorem dX11_countByCorns_98 : decode cX11_countByCorns 98 = .ok (.ireturn, 1) := by decide +kernel
theorem dX11_isHouse_0 : decode cX11_isHouse 0 = .ok (.iload_n 1, 1) := by decide +kernel
theorem dX11_isHouse_1 : decode cX11_isHouse 1 = .ok (.ifCond .lt 18, 3) := by decide +kernel
theorem dX11_isHouse_4 : decode cX11_isHouse 4 = .ok (.iload_n 1, 1) := by decide +kernel
theorem dX11_isHouse_5 : decode cX11_isHouse 5 = .ok (.aload_n 0, 1) := by decide +kernel
theorem dX11_isHouse_6 : decode cX11_isHouse 6 = .ok (.getfield 23, 3) := by decide +kernel
theorem dX11_isHouse_9 : decode cX11_isHouse 9 = .ok (.getfield 112, 3) := by decide +kernel
theorem dX11_isHouse_12 : decode cX11_isHouse 12 = .ok (.if_icmp .ge 7, 3) := by decide +kernel
theorem dX11_isHouse_15 : decode cX11_isHouse 15 = .ok (.iconst 1, 1) := by decide +kernel
theorem dX11_isHouse_16 : decode cX11_isHouse 16 = .ok (.goto 4, 3) := by decide +kernel
theorem dX11_isHouse_19 : decode cX11_isHouse 19 = .ok (.iconst 0, 1) := by decide +kernel
theorem dX11_isHouse_20 : decode cX11_isHouse 20 = .ok (.ireturn, 1) := by decide +kernel
theorem dX11_isMan_0 : decode cX11_isMan 0 = .ok (.iload_n 1, 1) := by decide +kernel
theorem dX11_isMan_1 : decode cX11_isMan 1 = .ok (.ifCond .lt 18, 3) := by decide +kernel
theorem dX11_isMan_4 : decode cX11_isMan 4 = .ok (.iload_n 1, 1) := by decide +kernel
theorem dX11_isMan_5 : decode cX11_isMan 5 = .ok (.aload_n 0, 1) := by decide +kernel
theorem dX11_isMan_6 : decode cX11_isMan 6 = .ok (.getfield 23, 3) := by decide +kernel
theorem dX11_isMan_9 : decode cX11_isMan 9 = .ok (.getfield 122, 3) := by decide +kernel
theorem dX11_isMan_12 : decode cX11_isMan 12 = .ok (.if_icmp .ge 7, 3) := by decide +kernel
theorem dX11_isMan_15 : decode cX11_isMan 15 = .ok (.iconst 1, 1) := by decide +kernel
theorem dX11_isMan_16 : decode cX11_isMan 16 = .ok (.goto 4, 3) := by decide +kernel
theorem dX11_isMan_19 : decode cX11_isMan 19 = .ok (.iconst 0, 1) := by decide +kernel
theorem dX11_isMan_20 : decode cX11_isMan 20 = .ok (.ireturn, 1) := by decide +kernel
theorem dX11_isZone_0 : decode cX11_isZone 0 = .ok (.iload_n 0, 1) := by decide +kernel
theorem dX11_isZone_1 : decode cX11_isZone 1 = .ok (.ifCond .lt 13, 3) := by decide +kernel
theorem dX11_isZone_4 : decode cX11_isZone 4 = .ok (.iload_n 0, 1) := by decide +kernel
theorem dX11_isZone_5 : decode cX11_isZone 5 = .ok (.bipush 8, 2) := by decide +kernel
theorem dX11_isZone_7 : decode cX11_isZone 7 = .ok (.if_icmp .ge 7, 3) := by decide +kernel
theorem dX11_isZone_10 : decode cX11_isZone 10 = .ok (.iconst 1, 1) := by decide +kernel
theorem dX11_isZone_11 : decode cX11_isZone 11 = .ok (.goto 4, 3) := by decide +kernel
theorem dX11_isZone_14 : decode cX11_isZone 14 = .ok (.iconst 0, 1) := by decide +kernel
theorem dX11_isZone_15 : decode cX11_isZone 15 = .ok (.ireturn, 1) := by decide +kernel
theorem dX11_areTwoHouses_0 : decode cX11_areTwoHouses 0 = .ok (.aload_n 0, 1) := by decide +kernel
theorem dX11_areTwoHouses_1 : decode cX11_areTwoHouses 1 = .ok (.iload_n 1, 1) := by decide +kernel
theorem dX11_areTwoHouses_2 : decode cX11_areTwoHouses 2 = .ok (.invokevirtual 162, 3) := by decide +kernel
theorem dX11_areTwoHouses_5 : decode cX11_areTwoHouses 5 = .ok (.ifCond .eq 20, 3) := by decide +kernel
theorem dX11_areTwoHouses_8 : decode cX11_areTwoHouses 8 = .ok (.aload_n 0, 1) := by decide +kernel
theorem dX11_areTwoHouses_9 : decode cX11_areTwoHouses 9 = .ok (.iload_n 2, 1) := by decide +kernel
theorem dX11_areTwoHouses_10 : decode cX11_areTwoHouses 10 = .ok (.invokevirtual 162, 3) := by decide +kernel
theorem dX11_areTwoHouses_13 : decode cX11_areTwoHouses 13 = .ok (.ifCond .eq 12, 3) := by decide +kernel
theorem dX11_areTwoHouses_16 : decode cX11_areTwoHouses 16 = .ok (.iload_n 1, 1) := by decide +kernel
theorem dX11_areTwoHouses_17 : decode cX11_areTwoHouses 17 = .ok (.iload_n 2, 1) := by decide +kernel
theorem dX11_areTwoHouses_18 : decode cX11_areTwoHouses 18 = .ok (.if_icmp .eq 7, 3) := by decide +kernel
theorem dX11_areTwoHouses_21 : decode cX11_areTwoHouses 21 = .ok (.iconst 1, 1) := by decide +kernel
theorem dX11_areTwoHouses_22 : decode cX11_areTwoHouses 22 = .ok (.goto 4, 3) := by decide +kernel
theorem dX11_areTwoHouses_25 : decode cX11_areTwoHouses 25 = .ok (.iconst 0, 1) := by decide +kernel
theorem dX11_areTwoHouses_26 : decode cX11_areTwoHouses 26 = .ok (.ireturn, 1) := by decide +kernel
