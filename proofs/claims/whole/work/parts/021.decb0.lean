theorem dX11_feed_0 : decode cX11_feed 0 = .ok (.aload_n 0, 1) := by decide +kernel
theorem dX11_feed_1 : decode cX11_feed 1 = .ok (.getfield 14, 3) := by decide +kernel
theorem dX11_feed_4 : decode cX11_feed 4 = .ok (.getfield 68, 3) := by decide +kernel
theorem dX11_feed_7 : decode cX11_feed 7 = .ok (.astore 6, 2) := by decide +kernel
theorem dX11_feed_9 : decode cX11_feed 9 = .ok (.aload 6, 2) := by decide +kernel
theorem dX11_feed_11 : decode cX11_feed 11 = .ok (.getfield 72, 3) := by decide +kernel
theorem dX11_feed_14 : decode cX11_feed 14 = .ok (.bipush 20, 2) := by decide +kernel
theorem dX11_feed_16 : decode cX11_feed 16 = .ok (.iadd, 1) := by decide +kernel
theorem dX11_feed_17 : decode cX11_feed 17 = .ok (.sipush 700, 3) := by decide +kernel
theorem dX11_feed_20 : decode cX11_feed 20 = .ok (.if_icmp .le 5, 3) := by decide +kernel
theorem dX11_feed_23 : decode cX11_feed 23 = .ok (.iconst (-1), 1) := by decide +kernel
theorem dX11_feed_24 : decode cX11_feed 24 = .ok (.ireturn, 1) := by decide +kernel
theorem dX11_feed_25 : decode cX11_feed 25 = .ok (.aload 6, 2) := by decide +kernel
theorem dX11_feed_27 : decode cX11_feed 27 = .ok (.iload_n 1, 1) := by decide +kernel
theorem dX11_feed_28 : decode cX11_feed 28 = .ok (.invokevirtual 78, 3) := by decide +kernel
theorem dX11_feed_31 : decode cX11_feed 31 = .ok (.aload 6, 2) := by decide +kernel
theorem dX11_feed_33 : decode cX11_feed 33 = .ok (.iload_n 2, 1) := by decide +kernel
theorem dX11_feed_34 : decode cX11_feed 34 = .ok (.invokevirtual 78, 3) := by decide +kernel
theorem dX11_feed_37 : decode cX11_feed 37 = .ok (.aload 6, 2) := by decide +kernel
theorem dX11_feed_39 : decode cX11_feed 39 = .ok (.iload_n 3, 1) := by decide +kernel
theorem dX11_feed_40 : decode cX11_feed 40 = .ok (.invokevirtual 78, 3) := by decide +kernel
theorem dX11_feed_43 : decode cX11_feed 43 = .ok (.aload 6, 2) := by decide +kernel
theorem dX11_feed_45 : decode cX11_feed 45 = .ok (.iload 4, 2) := by decide +kernel
theorem dX11_feed_47 : decode cX11_feed 47 = .ok (.invokevirtual 78, 3) := by decide +kernel
theorem dX11_feed_50 : decode cX11_feed 50 = .ok (.aload 6, 2) := by decide +kernel
theorem dX11_feed_52 : decode cX11_feed 52 = .ok (.iload 5, 2) := by decide +kernel
theorem dX11_feed_54 : decode cX11_feed 54 = .ok (.invokevirtual 78, 3) := by decide +kernel
theorem dX11_feed_57 : decode cX11_feed 57 = .ok (.aload 6, 2) := by decide +kernel
theorem dX11_feed_59 : decode cX11_feed 59 = .ok (.getfield 72, 3) := by decide +kernel
theorem dX11_feed_62 : decode cX11_feed 62 = .ok (.ireturn, 1) := by decide +kernel
theorem dX11_text_0 : decode cX11_text 0 = .ok (.iload_n 1, 1) := by decide +kernel
theorem dX11_text_1 : decode cX11_text 1 = .ok (.ifCond .lt 17, 3) := by decide +kernel
theorem dX11_text_4 : decode cX11_text 4 = .ok (.iload_n 1, 1) := by decide +kernel
theorem dX11_text_5 : decode cX11_text 5 = .ok (.aload_n 0, 1) := by decide +kernel
theorem dX11_text_6 : decode cX11_text 6 = .ok (.getfield 14, 3) := by decide +kernel
theorem dX11_text_9 : decode cX11_text 9 = .ok (.getfield 68, 3) := by decide +kernel
theorem dX11_text_12 : decode cX11_text 12 = .ok (.getfield 72, 3) := by decide +kernel
theorem dX11_text_15 : decode cX11_text 15 = .ok (.if_icmp .le 6, 3) := by decide +kernel
theorem dX11_text_18 : decode cX11_text 18 = .ok (.bipush (-2), 2) := by decide +kernel
theorem dX11_text_20 : decode cX11_text 20 = .ok (.ireturn, 1) := by decide +kernel
theorem dX11_text_21 : decode cX11_text 21 = .ok (.aload_n 0, 1) := by decide +kernel
theorem dX11_text_22 : decode cX11_text 22 = .ok (.getfield 14, 3) := by decide +kernel
theorem dX11_text_25 : decode cX11_text 25 = .ok (.getfield 68, 3) := by decide +kernel
theorem dX11_text_28 : decode cX11_text 28 = .ok (.iconst 0, 1) := by decide +kernel
theorem dX11_text_29 : decode cX11_text 29 = .ok (.putfield 72, 3) := by decide +kernel
theorem dX11_text_32 : decode cX11_text 32 = .ok (.aload_n 0, 1) := by decide +kernel
theorem dX11_text_33 : decode cX11_text 33 = .ok (.getfield 14, 3) := by decide +kernel
theorem dX11_text_36 : decode cX11_text 36 = .ok (.iload_n 1, 1) := by decide +kernel
theorem dX11_text_37 : decode cX11_text 37 = .ok (.invokevirtual 82, 3) := by decide +kernel
theorem dX11_text_40 : decode cX11_text 40 = .ok (.ifCond .ne 5, 3) := by decide +kernel
theorem dX11_text_43 : decode cX11_text 43 = .ok (.iconst (-1), 1) := by decide +kernel
theorem dX11_text_44 : decode cX11_text 44 = .ok (.ireturn, 1) := by decide +kernel
theorem dX11_text_45 : decode cX11_text 45 = .ok (.aload_n 0, 1) := by decide +kernel
theorem dX11_text_46 : decode cX11_text 46 = .ok (.getfield 23, 3) := by decide +kernel
theorem dX11_text_49 : decode cX11_text 49 = .ok (.astore_n 2, 1) := by decide +kernel
theorem dX11_text_50 : decode cX11_text 50 = .ok (.aload_n 0, 1) := by decide +kernel
theorem dX11_text_51 : decode cX11_text 51 = .ok (.aload_n 0, 1) := by decide +kernel
theorem dX11_text_52 : decode cX11_text 52 = .ok (.getfield 14, 3) := by decide +kernel
theorem dX11_text_55 : decode cX11_text 55 = .ok (.getfield 86, 3) := by decide +kernel
theorem dX11_text_58 : decode cX11_text 58 = .ok (.putfield 23, 3) := by decide +kernel
theorem dX11_text_61 : decode cX11_text 61 = .ok (.aload_n 0, 1) := by decide +kernel
theorem dX11_text_62 : decode cX11_text 62 = .ok (.getfield 14, 3) := by decide +kernel
theorem dX11_text_65 : decode cX11_text 65 = .ok (.aload_n 2, 1) := by decide +kernel
theorem dX11_text_66 : decode cX11_text 66 = .ok (.putfield 86, 3) := by decide +kernel
theorem dX11_text_69 : decode cX11_text 69 = .ok (.aload_n 0, 1) := by decide +kernel
theorem dX11_text_70 : decode cX11_text 70 = .ok (.getfield 30, 3) := by decide +kernel
theorem dX11_text_73 : decode cX11_text 73 = .ok (.aload_n 0, 1) := by decide +kernel
theorem dX11_text_74 : decode cX11_text 74 = .ok (.getfield 23, 3) := by decide +kernel
theorem dX11_text_77 : decode cX11_text 77 = .ok (.invokevirtual 87, 3) := by decide +kernel
theorem dX11_text_80 : decode cX11_text 80 = .ok (.aload_n 0, 1) := by decide +kernel
theorem dX11_text_81 : decode cX11_text 81 = .ok (.getfield 50, 3) := by decide +kernel
theorem dX11_text_84 : decode cX11_text 84 = .ok (.invokevirtual 91, 3) := by decide +kernel
theorem dX11_text_87 : decode cX11_text 87 = .ok (.aload_n 0, 1) := by decide +kernel
theorem dX11_text_88 : decode cX11_text 88 = .ok (.getfield 57, 3) := by decide +kernel
theorem dX11_text_91 : decode cX11_text 91 = .ok (.iconst 0, 1) := by decide +kernel
theorem dX11_text_92 : decode cX11_text 92 = .ok (.putfield 94, 3) := by decide +kernel
theorem dX11_text_95 : decode cX11_text 95 = .ok (.aload_n 0, 1) := by decide +kernel
theorem dX11_text_96 : decode cX11_text 96 = .ok (.iconst 0, 1) := by decide +kernel
theorem dX11_text_97 : decode cX11_text 97 = .ok (.putfield 95, 3) := by decide +kernel
theorem dX11_text_100 : decode cX11_text 100 = .ok (.aload_n 0, 1) := by decide +kernel
theorem dX11_text_101 : decode cX11_text 101 = .ok (.getfield 23, 3) := by decide +kernel
theorem dX11_text_104 : decode cX11_text 104 = .ok (.getfield 99, 3) := by decide +kernel
theorem dX11_text_107 : decode cX11_text 107 = .ok (.ireturn, 1) := by decide +kernel
theorem dX11_fault_0 : decode cX11_fault 0 = .ok (.iload_n 1, 1) := by decide +kernel
theorem dX11_fault_1 : decode cX11_fault 1 = .ok (.lookupswitch 43 #[(0, 27), (1, 35)], 27) := by decide +kernel
theorem dX11_fault_28 : decode cX11_fault 28 = .ok (.aload_n 0, 1) := by decide +kernel
theorem dX11_fault_29 : decode cX11_fault 29 = .ok (.getfield 14, 3) := by decide +kernel
theorem dX11_fault_32 : decode cX11_fault 32 = .ok (.getfield 102, 3) := by decide +kernel
theorem dX11_fault_35 : decode cX11_fault 35 = .ok (.ireturn, 1) := by decide +kernel
theorem dX11_fault_36 : decode cX11_fault 36 = .ok (.aload_n 0, 1) := by decide +kernel
theorem dX11_fault_37 : decode cX11_fault 37 = .ok (.getfield 14, 3) := by decide +kernel
theorem dX11_fault_40 : decode cX11_fault 40 = .ok (.getfield 105, 3) := by decide +kernel
theorem dX11_fault_43 : decode cX11_fault 43 = .ok (.ireturn, 1) := by decide +kernel
theorem dX11_fault_44 : decode cX11_fault 44 = .ok (.iconst (-1), 1) := by decide +kernel
theorem dX11_fault_45 : decode cX11_fault 45 = .ok (.ireturn, 1) := by decide +kernel
theorem dX11_named_0 : decode cX11_named 0 = .ok (.iload_n 1, 1) := by decide +kernel
theorem dX11_named_1 : decode cX11_named 1 = .ok (.lookupswitch 65 #[(0, 27), (1, 46)], 27) := by decide +kernel
theorem dX11_named_28 : decode cX11_named 28 = .ok (.aload_n 0, 1) := by decide +kernel
theorem dX11_named_29 : decode cX11_named 29 = .ok (.getfield 23, 3) := by decide +kernel
theorem dX11_named_32 : decode cX11_named 32 = .ok (.getfield 108, 3) := by decide +kernel
theorem dX11_named_35 : decode cX11_named 35 = .ok (.aload_n 0, 1) := by decide +kernel
theorem dX11_named_36 : decode cX11_named 36 = .ok (.getfield 23, 3) := by decide +kernel
theorem dX11_named_39 : decode cX11_named 39 = .ok (.getfield 112, 3) := by decide +kernel
theorem dX11_named_42 : decode cX11_named 42 = .ok (.iload_n 2, 1) := by decide +kernel
theorem dX11_named_43 : decode cX11_named 43 = .ok (.invokestatic 115, 3) := by decide +kernel
theorem dX11_named_46 : decode cX11_named 46 = .ok (.ireturn, 1) := by decide +kernel
theorem dX11_named_47 : decode cX11_named 47 = .ok (.aload_n 0, 1) := by decide +kernel
theorem dX11_named_48 : decode cX11_named 48 = .ok (.getfield 23, 3) := by decide +kernel
theorem dX11_named_51 : decode cX11_named 51 = .ok (.getfield 119, 3) := by decide +kernel
theorem dX11_named_54 : decode cX11_named 54 = .ok (.aload_n 0, 1) := by decide +kernel
theorem dX11_named_55 : decode cX11_named 55 = .ok (.getfield 23, 3) := by decide +kernel
theorem dX11_named_58 : decode cX11_named 58 = .ok (.getfield 122, 3) := by decide +kernel
theorem dX11_named_61 : decode cX11_named 61 = .ok (.iload_n 2, 1) := by decide +kernel
theorem dX11_named_62 : decode cX11_named 62 = .ok (.invokestatic 115, 3) := by decide +kernel
theorem dX11_named_65 : decode cX11_named 65 = .ok (.ireturn, 1) := by decide +kernel
theorem dX11_named_66 : decode cX11_named 66 = .ok (.iconst (-1), 1) := by decide +kernel
theorem dX11_named_67 : decode cX11_named 67 = .ok (.ireturn, 1) := by decide +kernel
theorem dX11_find_0 : decode cX11_find 0 = .ok (.iconst 0, 1) := by decide +kernel
theorem dX11_find_1 : decode cX11_find 1 = .ok (.istore_n 3, 1) := by decide +kernel
theorem dX11_find_2 : decode cX11_find 2 = .ok (.iload_n 3, 1) := by decide +kernel
theorem dX11_find_3 : decode cX11_find 3 = .ok (.iload_n 1, 1) := by decide +kernel
theorem dX11_find_4 : decode cX11_find 4 = .ok (.if_icmp .ge 18, 3) := by decide +kernel
theorem dX11_find_7 : decode cX11_find 7 = .ok (.aload_n 0, 1) := by decide +kernel
theorem dX11_find_8 : decode cX11_find 8 = .ok (.iload_n 3, 1) := by decide +kernel
theorem dX11_find_9 : decode cX11_find 9 = .ok (.iaload, 1) := by decide +kernel
theorem dX11_find_10 : decode cX11_find 10 = .ok (.iload_n 2, 1) := by decide +kernel
theorem dX11_find_11 : decode cX11_find 11 = .ok (.if_icmp .ne 5, 3) := by decide +kernel
theorem dX11_find_14 : decode cX11_find 14 = .ok (.iload_n 3, 1) := by decide +kernel
theorem dX11_find_15 : decode cX11_find 15 = .ok (.ireturn, 1) := by decide +kernel
theorem dX11_find_16 : decode cX11_find 16 = .ok (.iinc 3 1, 3) := by decide +kernel
theorem dX11_find_19 : decode cX11_find 19 = .ok (.goto (-17), 3) := by decide +kernel
theorem dX11_find_22 : decode cX11_find 22 = .ok (.iconst (-1), 1) := by decide +kernel
theorem dX11_find_23 : decode cX11_find 23 = .ok (.ireturn, 1) := by decide +kernel
theorem dX11_man_0 : decode cX11_man 0 = .ok (.aload_n 0, 1) := by decide +kernel
theorem dX11_man_1 : decode cX11_man 1 = .ok (.iload_n 1, 1) := by decide +kernel
theorem dX11_man_2 : decode cX11_man 2 = .ok (.invokevirtual 125, 3) := by decide +kernel
theorem dX11_man_5 : decode cX11_man 5 = .ok (.ifCond .ne 13, 3) := by decide +kernel
theorem dX11_man_8 : decode cX11_man 8 = .ok (.new 128, 3) := by decide +kernel
theorem dX11_man_11 : decode cX11_man 11 = .ok (.dup, 1) := by decide +kernel
theorem dX11_man_12 : decode cX11_man 12 = .ok (.ldc 130, 2) := by decide +kernel
theorem dX11_man_14 : decode cX11_man 14 = .ok (.invokespecial 132, 3) := by decide +kernel
theorem dX11_man_17 : decode cX11_man 17 = .ok (.athrow, 1) := by decide +kernel
theorem dX11_man_18 : decode cX11_man 18 = .ok (.iload_n 2, 1) := by decide +kernel
theorem dX11_man_19 : decode cX11_man 19 = .ok (.tableswitch 116 0 6 #[41, 51, 61, 71, 81, 91, 103], 41) := by decide +kernel
theorem dX11_man_60 : decode cX11_man 60 = .ok (.aload_n 0, 1) := by decide +kernel
theorem dX11_man_61 : decode cX11_man 61 = .ok (.getfield 30, 3) := by decide +kernel
theorem dX11_man_64 : decode cX11_man 64 = .ok (.getfield 135, 3) := by decide +kernel
theorem dX11_man_67 : decode cX11_man 67 = .ok (.iload_n 1, 1) := by decide +kernel
theorem dX11_man_68 : decode cX11_man 68 = .ok (.iaload, 1) := by decide +kernel
theorem dX11_man_69 : decode cX11_man 69 = .ok (.ireturn, 1) := by decide +kernel
theorem dX11_man_70 : decode cX11_man 70 = .ok (.aload_n 0, 1) := by decide +kernel
theorem dX11_man_71 : decode cX11_man 71 = .ok (.getfield 23, 3) := by decide +kernel
theorem dX11_man_74 : decode cX11_man 74 = .ok (.getfield 138, 3) := by decide +kernel
theorem dX11_man_77 : decode cX11_man 77 = .ok (.iload_n 1, 1) := by decide +kernel
theorem dX11_man_78 : decode cX11_man 78 = .ok (.iaload, 1) := by decide +kernel
theorem dX11_man_79 : decode cX11_man 79 = .ok (.ireturn, 1) := by decide +kernel
theorem dX11_man_80 : decode cX11_man 80 = .ok (.aload_n 0, 1) := by decide +kernel
theorem dX11_man_81 : decode cX11_man 81 = .ok (.getfield 23, 3) := by decide +kernel
theorem dX11_man_84 : decode cX11_man 84 = .ok (.getfield 141, 3) := by decide +kernel
theorem dX11_man_87 : decode cX11_man 87 = .ok (.iload_n 1, 1) := by decide +kernel
theorem dX11_man_88 : decode cX11_man 88 = .ok (.iaload, 1) := by decide +kernel
theorem dX11_man_89 : decode cX11_man 89 = .ok (.ireturn, 1) := by decide +kernel
theorem dX11_man_90 : decode cX11_man 90 = .ok (.aload_n 0, 1) := by decide +kernel
theorem dX11_man_91 : decode cX11_man 91 = .ok (.getfield 30, 3) := by decide +kernel
theorem dX11_man_94 : decode cX11_man 94 = .ok (.getfield 144, 3) := by decide +kernel
theorem dX11_man_97 : decode cX11_man 97 = .ok (.iload_n 1, 1) := by decide +kernel
theorem dX11_man_98 : decode cX11_man 98 = .ok (.iaload, 1) := by decide +kernel
theorem dX11_man_99 : decode cX11_man 99 = .ok (.ireturn, 1) := by decide +kernel
theorem dX11_man_100 : decode cX11_man 100 = .ok (.aload_n 0, 1) := by decide +kernel
theorem dX11_man_101 : decode cX11_man 101 = .ok (.getfield 30, 3) := by decide +kernel
theorem dX11_man_104 : decode cX11_man 104 = .ok (.getfield 147, 3) := by decide +kernel
theorem dX11_man_107 : decode cX11_man 107 = .ok (.iload_n 1, 1) := by decide +kernel
theorem dX11_man_108 : decode cX11_man 108 = .ok (.iaload, 1) := by decide +kernel
theorem dX11_man_109 : decode cX11_man 109 = .ok (.ireturn, 1) := by decide +kernel
theorem dX11_man_110 : decode cX11_man 110 = .ok (.aload_n 0, 1) := by decide +kernel
theorem dX11_man_111 : decode cX11_man 111 = .ok (.getfield 30, 3) := by decide +kernel
theorem dX11_man_114 : decode cX11_man 114 = .ok (.getfield 150, 3) := by decide +kernel
theorem dX11_man_117 : decode cX11_man 117 = .ok (.iload_n 1, 1) := by decide +kernel
theorem dX11_man_118 : decode cX11_man 118 = .ok (.ishr, 1) := by decide +kernel
theorem dX11_man_119 : decode cX11_man 119 = .ok (.iconst 1, 1) := by decide +kernel
theorem dX11_man_120 : decode cX11_man 120 = .ok (.iand, 1) := by decide +kernel
theorem dX11_man_121 : decode cX11_man 121 = .ok (.ireturn, 1) := by decide +kernel
theorem dX11_man_122 : decode cX11_man 122 = .ok (.aload_n 0, 1) := by decide +kernel
theorem dX11_man_123 : decode cX11_man 123 = .ok (.getfield 30, 3) := by decide +kernel
theorem dX11_man_126 : decode cX11_man 126 = .ok (.aload_n 0, 1) := by decide +kernel
theorem dX11_man_127 : decode cX11_man 127 = .ok (.getfield 23, 3) := by decide +kernel
theorem dX11_man_130 : decode cX11_man 130 = .ok (.iload_n 1, 1) := by decide +kernel
theorem dX11_man_131 : decode cX11_man 131 = .ok (.invokevirtual 153, 3) := by decide +kernel
theorem dX11_man_134 : decode cX11_man 134 = .ok (.ireturn, 1) := by decide +kernel
theorem dX11_man_135 : decode cX11_man 135 = .ok (.new 157, 3) := by decide +kernel
theorem dX11_man_138 : decode cX11_man 138 = .ok (.dup, 1) := by decide +kernel
theorem dX11_man_139 : decode cX11_man 139 = .ok (.ldc 159, 2) := by decide +kernel
theorem dX11_man_141 : decode cX11_man 141 = .ok (.invokespecial 161, 3) := by decide +kernel
theorem dX11_man_144 : decode cX11_man 144 = .ok (.athrow, 1) := by decide +kernel
theorem dX11_last_0 : decode cX11_last 0 = .ok (.aload_n 0, 1) := by decide +kernel
theorem dX11_last_1 : decode cX11_last 1 = .ok (.iload_n 1, 1) := by decide +kernel
theorem dX11_last_2 : decode cX11_last 2 = .ok (.invokevirtual 162, 3) := by decide +kernel
theorem dX11_last_5 : decode cX11_last 5 = .ok (.ifCond .eq 10, 3) := by decide +kernel
theorem dX11_last_8 : decode cX11_last 8 = .ok (.iload_n 2, 1) := by decide +kernel
theorem dX11_last_9 : decode cX11_last 9 = .ok (.invokestatic 165, 3) := by decide +kernel
theorem dX11_last_12 : decode cX11_last 12 = .ok (.ifCond .ne 6, 3) := by decide +kernel
theorem dX11_last_15 : decode cX11_last 15 = .ok (.ldc 168, 2) := by decide +kernel
theorem dX11_last_17 : decode cX11_last 17 = .ok (.ireturn, 1) := by decide +kernel
theorem dX11_last_18 : decode cX11_last 18 = .ok (.aload_n 0, 1) := by decide +kernel
theorem dX11_last_19 : decode cX11_last 19 = .ok (.getfield 30, 3) := by decide +kernel
theorem dX11_last_22 : decode cX11_last 22 = .ok (.iload_n 1, 1) := by decide +kernel
theorem dX11_last_23 : decode cX11_last 23 = .ok (.iload_n 2, 1) := by decide +kernel
theorem dX11_last_24 : decode cX11_last 24 = .ok (.invokevirtual 169, 3) := by decide +kernel
theorem dX11_last_27 : decode cX11_last 27 = .ok (.ireturn, 1) := by decide +kernel
theorem dX11_layer_0 : decode cX11_layer 0 = .ok (.aload_n 0, 1) := by decide +kernel
theorem dX11_layer_1 : decode cX11_layer 1 = .ok (.iload_n 1, 1) := by decide +kernel
theorem dX11_layer_2 : decode cX11_layer 2 = .ok (.invokevirtual 162, 3) := by decide +kernel
theorem dX11_layer_5 : decode cX11_layer 5 = .ok (.ifCond .ne 6, 3) := by decide +kernel
theorem dX11_layer_8 : decode cX11_layer 8 = .ok (.ldc 168, 2) := by decide +kernel
theorem dX11_layer_10 : decode cX11_layer 10 = .ok (.ireturn, 1) := by decide +kernel
theorem dX11_layer_11 : decode cX11_layer 11 = .ok (.aload_n 0, 1) := by decide +kernel
theorem dX11_layer_12 : decode cX11_layer 12 = .ok (.getfield 30, 3) := by decide +kernel
theorem dX11_layer_15 : decode cX11_layer 15 = .ok (.getfield 173, 3) := by decide +kernel
theorem dX11_layer_18 : decode cX11_layer 18 = .ok (.iload_n 1, 1) := by decide +kernel
theorem dX11_layer_19 : decode cX11_layer 19 = .ok (.iaload, 1) := by decide +kernel
theorem dX11_layer_20 : decode cX11_layer 20 = .ok (.istore 4, 2) := by decide +kernel
theorem dX11_layer_22 : decode cX11_layer 22 = .ok (.iload_n 3, 1) := by decide +kernel
theorem dX11_layer_23 : decode cX11_layer 23 = .ok (.ifCond .ne 6, 3) := by decide +kernel
theorem dX11_layer_26 : decode cX11_layer 26 = .ok (.iload 4, 2) := by decide +kernel
theorem dX11_layer_28 : decode cX11_layer 28 = .ok (.ireturn, 1) := by decide +kernel
theorem dX11_layer_29 : decode cX11_layer 29 = .ok (.iload_n 2, 1) := by decide +kernel
theorem dX11_layer_30 : decode cX11_layer 30 = .ok (.ifCond .lt 9, 3) := by decide +kernel
theorem dX11_layer_33 : decode cX11_layer 33 = .ok (.iload_n 2, 1) := by decide +kernel
theorem dX11_layer_34 : decode cX11_layer 34 = .ok (.iload 4, 2) := by decide +kernel
theorem dX11_layer_36 : decode cX11_layer 36 = .ok (.if_icmp .lt 6, 3) := by decide +kernel
theorem dX11_layer_39 : decode cX11_layer 39 = .ok (.ldc 168, 2) := by decide +kernel
theorem dX11_layer_41 : decode cX11_layer 41 = .ok (.ireturn, 1) := by decide +kernel
theorem dX11_layer_42 : decode cX11_layer 42 = .ok (.iload_n 3, 1) := by decide +kernel
theorem dX11_layer_43 : decode cX11_layer 43 = .ok (.lookupswitch 55 #[(1, 25), (2, 40)], 25) := by decide +kernel
theorem dX11_layer_68 : decode cX11_layer 68 = .ok (.aload_n 0, 1) := by decide +kernel
theorem dX11_layer_69 : decode cX11_layer 69 = .ok (.getfield 30, 3) := by decide +kernel
theorem dX11_layer_72 : decode cX11_layer 72 = .ok (.getfield 176, 3) := by decide +kernel
theorem dX11_layer_75 : decode cX11_layer 75 = .ok (.iload_n 1, 1) := by decide +kernel
theorem dX11_layer_76 : decode cX11_layer 76 = .ok (.bipush 12, 2) := by decide +kernel
theorem dX11_layer_78 : decode cX11_layer 78 = .ok (.imul, 1) := by decide +kernel
theorem dX11_layer_79 : decode cX11_layer 79 = .ok (.iload_n 2, 1) := by decide +kernel
theorem dX11_layer_80 : decode cX11_layer 80 = .ok (.iadd, 1) := by decide +kernel
theorem dX11_layer_81 : decode cX11_layer 81 = .ok (.iaload, 1) := by decide +kernel
theorem dX11_layer_82 : decode cX11_layer 82 = .ok (.ireturn, 1) := by decide +kernel
theorem dX11_layer_83 : decode cX11_layer 83 = .ok (.aload_n 0, 1) := by decide +kernel
theorem dX11_layer_84 : decode cX11_layer 84 = .ok (.getfield 30, 3) := by decide +kernel
theorem dX11_layer_87 : decode cX11_layer 87 = .ok (.getfield 179, 3) := by decide +kernel
theorem dX11_layer_90 : decode cX11_layer 90 = .ok (.iload_n 1, 1) := by decide +kernel
theorem dX11_layer_91 : decode cX11_layer 91 = .ok (.bipush 12, 2) := by decide +kernel
theorem dX11_layer_93 : decode cX11_layer 93 = .ok (.imul, 1) := by decide +kernel
theorem dX11_layer_94 : decode cX11_layer 94 = .ok (.iload_n 2, 1) := by decide +kernel
theorem dX11_layer_95 : decode cX11_layer 95 = .ok (.iadd, 1) := by decide +kernel
theorem dX11_layer_96 : decode cX11_layer 96 = .ok (.iaload, 1) := by decide +kernel
theorem dX11_layer_97 : decode cX11_layer 97 = .ok (.ireturn, 1) := by decide +kernel
theorem dX11_layer_98 : decode cX11_layer 98 = .ok (.ldc 168, 2) := by decide +kernel
theorem dX11_layer_100 : decode cX11_layer 100 = .ok (.ireturn, 1) := by decide +kernel
theorem dX11_far_0 : decode cX11_far 0 = .ok (.aload_n 0, 1) := by decide +kernel
theorem dX11_far_1 : decode cX11_far 1 = .ok (.iload_n 1, 1) := by decide +kernel
theorem dX11_far_2 : decode cX11_far 2 = .ok (.invokevirtual 125, 3) := by decide +kernel
theorem dX11_far_5 : decode cX11_far 5 = .ok (.ifCond .eq 11, 3) := by decide +kernel
theorem dX11_far_8 : decode cX11_far 8 = .ok (.aload_n 0, 1) := by decide +kernel
theorem dX11_far_9 : decode cX11_far 9 = .ok (.iload_n 2, 1) := by decide +kernel
theorem dX11_far_10 : decode cX11_far 10 = .ok (.invokevirtual 162, 3) := by decide +kernel
theorem dX11_far_13 : decode cX11_far 13 = .ok (.ifCond .ne 5, 3) := by decide +kernel
theorem dX11_far_16 : decode cX11_far 16 = .ok (.iconst (-1), 1) := by decide +kernel
theorem dX11_far_17 : decode cX11_far 17 = .ok (.ireturn, 1) := by decide +kernel
theorem dX11_far_18 : decode cX11_far 18 = .ok (.aload_n 0, 1) := by decide +kernel
theorem dX11_far_19 : decode cX11_far 19 = .ok (.getfield 30, 3) := by decide +kernel
theorem dX11_far_22 : decode cX11_far 22 = .ok (.aload_n 0, 1) := by decide +kernel
theorem dX11_far_23 : decode cX11_far 23 = .ok (.getfield 23, 3) := by decide +kernel
theorem dX11_far_26 : decode cX11_far 26 = .ok (.iload_n 1, 1) := by decide +kernel
theorem dX11_far_27 : decode cX11_far 27 = .ok (.iload_n 2, 1) := by decide +kernel
theorem dX11_far_28 : decode cX11_far 28 = .ok (.invokevirtual 182, 3) := by decide +kernel
theorem dX11_far_31 : decode cX11_far 31 = .ok (.ireturn, 1) := by decide +kernel
theorem dX11_law_0 : decode cX11_law 0 = .ok (.iload_n 1, 1) := by decide +kernel
theorem dX11_law_1 : decode cX11_law 1 = .ok (.tableswitch 141 0 2 #[27, 65, 103], 27) := by decide +kernel
theorem dX11_law_28 : decode cX11_law 28 = .ok (.iload_n 2, 1) := by decide +kernel
theorem dX11_law_29 : decode cX11_law 29 = .ok (.ifCond .lt 14, 3) := by decide +kernel
theorem dX11_law_32 : decode cX11_law 32 = .ok (.iload_n 2, 1) := by decide +kernel
theorem dX11_law_33 : decode cX11_law 33 = .ok (.aload_n 0, 1) := by decide +kernel
theorem dX11_law_34 : decode cX11_law 34 = .ok (.getfield 23, 3) := by decide +kernel
theorem dX11_law_37 : decode cX11_law 37 = .ok (.getfield 186, 3) := by decide +kernel
theorem dX11_law_40 : decode cX11_law 40 = .ok (.if_icmp .lt 9, 3) := by decide +kernel
theorem dX11_law_43 : decode cX11_law 43 = .ok (.ldc2_w 189, 3) := by decide +kernel
theorem dX11_law_46 : decode cX11_law 46 = .ok (.goto 19, 3) := by decide +kernel
theorem dX11_law_49 : decode cX11_law 49 = .ok (.aload_n 0, 1) := by decide +kernel
theorem dX11_law_50 : decode cX11_law 50 = .ok (.getfield 43, 3) := by decide +kernel
theorem dX11_law_53 : decode cX11_law 53 = .ok (.aload_n 0, 1) := by decide +kernel
theorem dX11_law_54 : decode cX11_law 54 = .ok (.getfield 23, 3) := by decide +kernel
theorem dX11_law_57 : decode cX11_law 57 = .ok (.aload_n 0, 1) := by decide +kernel
theorem dX11_law_58 : decode cX11_law 58 = .ok (.getfield 30, 3) := by decide +kernel
theorem dX11_law_61 : decode cX11_law 61 = .ok (.iload_n 2, 1) := by decide +kernel
theorem dX11_law_62 : decode cX11_law 62 = .ok (.invokevirtual 191, 3) := by decide +kernel
theorem dX11_law_65 : decode cX11_law 65 = .ok (.lreturn, 1) := by decide +kernel
theorem dX11_law_66 : decode cX11_law 66 = .ok (.aload_n 0, 1) := by decide +kernel
theorem dX11_law_67 : decode cX11_law 67 = .ok (.iload_n 2, 1) := by decide +kernel
theorem dX11_law_68 : decode cX11_law 68 = .ok (.invokevirtual 125, 3) := by decide +kernel
theorem dX11_law_71 : decode cX11_law 71 = .ok (.ifCond .ne 9, 3) := by decide +kernel
theorem dX11_law_74 : decode cX11_law 74 = .ok (.ldc2_w 189, 3) := by decide +kernel
theorem dX11_law_77 : decode cX11_law 77 = .ok (.goto 26, 3) := by decide +kernel
theorem dX11_law_80 : decode cX11_law 80 = .ok (.aload_n 0, 1) := by decide +kernel
theorem dX11_law_81 : decode cX11_law 81 = .ok (.getfield 43, 3) := by decide +kernel
theorem dX11_law_84 : decode cX11_law 84 = .ok (.aload_n 0, 1) := by decide +kernel
theorem dX11_law_85 : decode cX11_law 85 = .ok (.getfield 23, 3) := by decide +kernel
theorem dX11_law_88 : decode cX11_law 88 = .ok (.aload_n 0, 1) := by decide +kernel
theorem dX11_law_89 : decode cX11_law 89 = .ok (.getfield 30, 3) := by decide +kernel
theorem dX11_law_92 : decode cX11_law 92 = .ok (.iload_n 2, 1) := by decide +kernel
theorem dX11_law_93 : decode cX11_law 93 = .ok (.aload_n 0, 1) := by decide +kernel
theorem dX11_law_94 : decode cX11_law 94 = .ok (.getfield 23, 3) := by decide +kernel
theorem dX11_law_97 : decode cX11_law 97 = .ok (.getfield 195, 3) := by decide +kernel
theorem dX11_law_100 : decode cX11_law 100 = .ok (.invokevirtual 199, 3) := by decide +kernel
theorem dX11_law_103 : decode cX11_law 103 = .ok (.lreturn, 1) := by decide +kernel
theorem dX11_law_104 : decode cX11_law 104 = .ok (.aload_n 0, 1) := by decide +kernel
theorem dX11_law_105 : decode cX11_law 105 = .ok (.iload_n 2, 1) := by decide +kernel
theorem dX11_law_106 : decode cX11_law 106 = .ok (.invokevirtual 125, 3) := by decide +kernel
theorem dX11_law_109 : decode cX11_law 109 = .ok (.ifCond .ne 9, 3) := by decide +kernel
theorem dX11_law_112 : decode cX11_law 112 = .ok (.ldc2_w 189, 3) := by decide +kernel
theorem dX11_law_115 : decode cX11_law 115 = .ok (.goto 26, 3) := by decide +kernel
theorem dX11_law_118 : decode cX11_law 118 = .ok (.aload_n 0, 1) := by decide +kernel
theorem dX11_law_119 : decode cX11_law 119 = .ok (.getfield 43, 3) := by decide +kernel
theorem dX11_law_122 : decode cX11_law 122 = .ok (.aload_n 0, 1) := by decide +kernel
theorem dX11_law_123 : decode cX11_law 123 = .ok (.getfield 23, 3) := by decide +kernel
theorem dX11_law_126 : decode cX11_law 126 = .ok (.aload_n 0, 1) := by decide +kernel
theorem dX11_law_127 : decode cX11_law 127 = .ok (.getfield 30, 3) := by decide +kernel
theorem dX11_law_130 : decode cX11_law 130 = .ok (.iload_n 2, 1) := by decide +kernel
theorem dX11_law_131 : decode cX11_law 131 = .ok (.aload_n 0, 1) := by decide +kernel
theorem dX11_law_132 : decode cX11_law 132 = .ok (.getfield 23, 3) := by decide +kernel
theorem dX11_law_135 : decode cX11_law 135 = .ok (.getfield 203, 3) := by decide +kernel
theorem dX11_law_138 : decode cX11_law 138 = .ok (.invokevirtual 199, 3) := by decide +kernel
theorem dX11_law_141 : decode cX11_law 141 = .ok (.lreturn, 1) := by decide +kernel
theorem dX11_law_142 : decode cX11_law 142 = .ok (.ldc2_w 189, 3) := by decide +kernel
theorem dX11_law_145 : decode cX11_law 145 = .ok (.lreturn, 1) := by decide +kernel
theorem dX11_sum_0 : decode cX11_sum 0 = .ok (.aload_n 0, 1) := by decide +kernel
theorem dX11_sum_1 : decode cX11_sum 1 = .ok (.iload_n 1, 1) := by decide +kernel
theorem dX11_sum_2 : decode cX11_sum 2 = .ok (.invokevirtual 162, 3) := by decide +kernel
theorem dX11_sum_5 : decode cX11_sum 5 = .ok (.ifCond .eq 14, 3) := by decide +kernel
theorem dX11_sum_8 : decode cX11_sum 8 = .ok (.aload_n 0, 1) := by decide +kernel
theorem dX11_sum_9 : decode cX11_sum 9 = .ok (.getfield 30, 3) := by decide +kernel
theorem dX11_sum_12 : decode cX11_sum 12 = .ok (.iload_n 1, 1) := by decide +kernel
theorem dX11_sum_13 : decode cX11_sum 13 = .ok (.invokevirtual 206, 3) := by decide +kernel
theorem dX11_sum_16 : decode cX11_sum 16 = .ok (.goto 5, 3) := by decide +kernel
theorem dX11_sum_19 : decode cX11_sum 19 = .ok (.ldc 168, 2) := by decide +kernel
theorem dX11_sum_21 : decode cX11_sum 21 = .ok (.ireturn, 1) := by decide +kernel
theorem dX11_settle_0 : decode cX11_settle 0 = .ok (.aload_n 0, 1) := by decide +kernel
theorem dX11_settle_1 : decode cX11_settle 1 = .ok (.iload_n 1, 1) := by decide +kernel
theorem dX11_settle_2 : decode cX11_settle 2 = .ok (.iload_n 2, 1) := by decide +kernel
theorem dX11_settle_3 : decode cX11_settle 3 = .ok (.invokevirtual 210, 3) := by decide +kernel
theorem dX11_settle_6 : decode cX11_settle 6 = .ok (.ifCond .eq 10, 3) := by decide +kernel
theorem dX11_settle_9 : decode cX11_settle 9 = .ok (.iload_n 3, 1) := by decide +kernel
theorem dX11_settle_10 : decode cX11_settle 10 = .ok (.invokestatic 165, 3) := by decide +kernel
theorem dX11_settle_13 : decode cX11_settle 13 = .ok (.ifCond .ne 6, 3) := by decide +kernel
theorem dX11_settle_16 : decode cX11_settle 16 = .ok (.ldc 168, 2) := by decide +kernel
theorem dX11_settle_18 : decode cX11_settle 18 = .ok (.ireturn, 1) := by decide +kernel
theorem dX11_settle_19 : decode cX11_settle 19 = .ok (.aload_n 0, 1) := by decide +kernel
theorem dX11_settle_20 : decode cX11_settle 20 = .ok (.getfield 30, 3) := by decide +kernel
theorem dX11_settle_23 : decode cX11_settle 23 = .ok (.iload_n 1, 1) := by decide +kernel
theorem dX11_settle_24 : decode cX11_settle 24 = .ok (.iload_n 2, 1) := by decide +kernel
theorem dX11_settle_25 : decode cX11_settle 25 = .ok (.iload_n 3, 1) := by decide +kernel
theorem dX11_settle_26 : decode cX11_settle 26 = .ok (.invokevirtual 214, 3) := by decide +kernel
theorem dX11_settle_29 : decode cX11_settle 29 = .ok (.ireturn, 1) := by decide +kernel
theorem dX11_knee_0 : decode cX11_knee 0 = .ok (.aload_n 0, 1) := by decide +kernel
theorem dX11_knee_1 : decode cX11_knee 1 = .ok (.getfield 23, 3) := by decide +kernel
theorem dX11_knee_4 : decode cX11_knee 4 = .ok (.getfield 112, 3) := by decide +kernel
theorem dX11_knee_7 : decode cX11_knee 7 = .ok (.ifCond .ne 6, 3) := by decide +kernel
theorem dX11_knee_10 : decode cX11_knee 10 = .ok (.bipush (-2), 2) := by decide +kernel
theorem dX11_knee_12 : decode cX11_knee 12 = .ok (.ireturn, 1) := by decide +kernel
theorem dX11_knee_13 : decode cX11_knee 13 = .ok (.iconst 0, 1) := by decide +kernel
theorem dX11_knee_14 : decode cX11_knee 14 = .ok (.istore_n 1, 1) := by decide +kernel
theorem dX11_knee_15 : decode cX11_knee 15 = .ok (.iconst 1, 1) := by decide +kernel
theorem dX11_knee_16 : decode cX11_knee 16 = .ok (.istore_n 2, 1) := by decide +kernel
theorem dX11_knee_17 : decode cX11_knee 17 = .ok (.iload_n 2, 1) := by decide +kernel
theorem dX11_knee_18 : decode cX11_knee 18 = .ok (.aload_n 0, 1) := by decide +kernel
theorem dX11_knee_19 : decode cX11_knee 19 = .ok (.getfield 23, 3) := by decide +kernel
theorem dX11_knee_22 : decode cX11_knee 22 = .ok (.getfield 112, 3) := by decide +kernel
theorem dX11_knee_25 : decode cX11_knee 25 = .ok (.if_icmp .ge 32, 3) := by decide +kernel
theorem dX11_knee_28 : decode cX11_knee 28 = .ok (.aload_n 0, 1) := by decide +kernel
theorem dX11_knee_29 : decode cX11_knee 29 = .ok (.getfield 30, 3) := by decide +kernel
theorem dX11_knee_32 : decode cX11_knee 32 = .ok (.getfield 173, 3) := by decide +kernel
theorem dX11_knee_35 : decode cX11_knee 35 = .ok (.iload_n 2, 1) := by decide +kernel
theorem dX11_knee_36 : decode cX11_knee 36 = .ok (.iaload, 1) := by decide +kernel
theorem dX11_knee_37 : decode cX11_knee 37 = .ok (.aload_n 0, 1) := by decide +kernel
theorem dX11_knee_38 : decode cX11_knee 38 = .ok (.getfield 30, 3) := by decide +kernel
theorem dX11_knee_41 : decode cX11_knee 41 = .ok (.getfield 173, 3) := by decide +kernel
theorem dX11_knee_44 : decode cX11_knee 44 = .ok (.iload_n 1, 1) := by decide +kernel
theorem dX11_knee_45 : decode cX11_knee 45 = .ok (.iaload, 1) := by decide +kernel
theorem dX11_knee_46 : decode cX11_knee 46 = .ok (.if_icmp .le 5, 3) := by decide +kernel
theorem dX11_knee_49 : decode cX11_knee 49 = .ok (.iload_n 2, 1) := by decide +kernel
theorem dX11_knee_50 : decode cX11_knee 50 = .ok (.istore_n 1, 1) := by decide +kernel
theorem dX11_knee_51 : decode cX11_knee 51 = .ok (.iinc 2 1, 3) := by decide +kernel
theorem dX11_knee_54 : decode cX11_knee 54 = .ok (.goto (-37), 3) := by decide +kernel
theorem dX11_knee_57 : decode cX11_knee 57 = .ok (.iload_n 1, 1) := by decide +kernel
theorem dX11_knee_58 : decode cX11_knee 58 = .ok (.ireturn, 1) := by decide +kernel
theorem dX11_walkers_0 : decode cX11_walkers 0 = .ok (.iconst 0, 1) := by decide +kernel
theorem dX11_walkers_1 : decode cX11_walkers 1 = .ok (.istore_n 1, 1) := by decide +kernel
theorem dX11_walkers_2 : decode cX11_walkers 2 = .ok (.iconst 0, 1) := by decide +kernel
theorem dX11_walkers_3 : decode cX11_walkers 3 = .ok (.istore_n 2, 1) := by decide +kernel
theorem dX11_walkers_4 : decode cX11_walkers 4 = .ok (.iload_n 2, 1) := by decide +kernel
theorem dX11_walkers_5 : decode cX11_walkers 5 = .ok (.aload_n 0, 1) := by decide +kernel
theorem dX11_walkers_6 : decode cX11_walkers 6 = .ok (.getfield 23, 3) := by decide +kernel
theorem dX11_walkers_9 : decode cX11_walkers 9 = .ok (.getfield 122, 3) := by decide +kernel
theorem dX11_walkers_12 : decode cX11_walkers 12 = .ok (.if_icmp .ge 30, 3) := by decide +kernel
theorem dX11_walkers_15 : decode cX11_walkers 15 = .ok (.aload_n 0, 1) := by decide +kernel
theorem dX11_walkers_16 : decode cX11_walkers 16 = .ok (.getfield 30, 3) := by decide +kernel
theorem dX11_walkers_19 : decode cX11_walkers 19 = .ok (.aload_n 0, 1) := by decide +kernel
theorem dX11_walkers_20 : decode cX11_walkers 20 = .ok (.getfield 23, 3) := by decide +kernel
theorem dX11_walkers_23 : decode cX11_walkers 23 = .ok (.iload_n 2, 1) := by decide +kernel
theorem dX11_walkers_24 : decode cX11_walkers 24 = .ok (.invokevirtual 153, 3) := by decide +kernel
theorem dX11_walkers_27 : decode cX11_walkers 27 = .ok (.ifCond .ne 9, 3) := by decide +kernel
theorem dX11_walkers_30 : decode cX11_walkers 30 = .ok (.iload_n 1, 1) := by decide +kernel
theorem dX11_walkers_31 : decode cX11_walkers 31 = .ok (.iconst 1, 1) := by decide +kernel
theorem dX11_walkers_32 : decode cX11_walkers 32 = .ok (.iload_n 2, 1) := by decide +kernel
theorem dX11_walkers_33 : decode cX11_walkers 33 = .ok (.ishl, 1) := by decide +kernel
theorem dX11_walkers_34 : decode cX11_walkers 34 = .ok (.ior, 1) := by decide +kernel
theorem dX11_walkers_35 : decode cX11_walkers 35 = .ok (.istore_n 1, 1) := by decide +kernel
theorem dX11_walkers_36 : decode cX11_walkers 36 = .ok (.iinc 2 1, 3) := by decide +kernel
theorem dX11_walkers_39 : decode cX11_walkers 39 = .ok (.goto (-35), 3) := by decide +kernel
theorem dX11_walkers_42 : decode cX11_walkers 42 = .ok (.iload_n 1, 1) := by decide +kernel
theorem dX11_walkers_43 : decode cX11_walkers 43 = .ok (.ireturn, 1) := by decide +kernel
theorem dX11_barest_0 : decode cX11_barest 0 = .ok (.bipush (-2), 2) := by decide +kernel
theorem dX11_barest_2 : decode cX11_barest 2 = .ok (.istore_n 1, 1) := by decide +kernel
theorem dX11_barest_3 : decode cX11_barest 3 = .ok (.iconst 0, 1) := by decide +kernel
theorem dX11_barest_4 : decode cX11_barest 4 = .ok (.istore_n 2, 1) := by decide +kernel
theorem dX11_barest_5 : decode cX11_barest 5 = .ok (.iconst 0, 1) := by decide +kernel
theorem dX11_barest_6 : decode cX11_barest 6 = .ok (.istore_n 3, 1) := by decide +kernel
theorem dX11_barest_7 : decode cX11_barest 7 = .ok (.iload_n 3, 1) := by decide +kernel
theorem dX11_barest_8 : decode cX11_barest 8 = .ok (.aload_n 0, 1) := by decide +kernel
theorem dX11_barest_9 : decode cX11_barest 9 = .ok (.getfield 23, 3) := by decide +kernel
theorem dX11_barest_12 : decode cX11_barest 12 = .ok (.getfield 122, 3) := by decide +kernel
theorem dX11_barest_15 : decode cX11_barest 15 = .ok (.if_icmp .ge 50, 3) := by decide +kernel
theorem dX11_barest_18 : decode cX11_barest 18 = .ok (.aload_n 0, 1) := by decide +kernel
theorem dX11_barest_19 : decode cX11_barest 19 = .ok (.getfield 23, 3) := by decide +kernel
theorem dX11_barest_22 : decode cX11_barest 22 = .ok (.getfield 138, 3) := by decide +kernel
theorem dX11_barest_25 : decode cX11_barest 25 = .ok (.iload_n 3, 1) := by decide +kernel
theorem dX11_barest_26 : decode cX11_barest 26 = .ok (.iaload, 1) := by decide +kernel
theorem dX11_barest_27 : decode cX11_barest 27 = .ok (.bipush 8, 2) := by decide +kernel
theorem dX11_barest_29 : decode cX11_barest 29 = .ok (.imul, 1) := by decide +kernel
theorem dX11_barest_30 : decode cX11_barest 30 = .ok (.aload_n 0, 1) := by decide +kernel
theorem dX11_barest_31 : decode cX11_barest 31 = .ok (.getfield 30, 3) := by decide +kernel
theorem dX11_barest_34 : decode cX11_barest 34 = .ok (.getfield 144, 3) := by decide +kernel
theorem dX11_barest_37 : decode cX11_barest 37 = .ok (.iload_n 3, 1) := by decide +kernel
theorem dX11_barest_38 : decode cX11_barest 38 = .ok (.iaload, 1) := by decide +kernel
theorem dX11_barest_39 : decode cX11_barest 39 = .ok (.iadd, 1) := by decide +kernel
theorem dX11_barest_40 : decode cX11_barest 40 = .ok (.istore 4, 2) := by decide +kernel
theorem dX11_barest_42 : decode cX11_barest 42 = .ok (.iload_n 1, 1) := by decide +kernel
theorem dX11_barest_43 : decode cX11_barest 43 = .ok (.bipush (-2), 2) := by decide +kernel
theorem dX11_barest_45 : decode cX11_barest 45 = .ok (.if_icmp .eq 9, 3) := by decide +kernel
theorem dX11_barest_48 : decode cX11_barest 48 = .ok (.iload 4, 2) := by decide +kernel
theorem dX11_barest_50 : decode cX11_barest 50 = .ok (.iload_n 2, 1) := by decide +kernel
theorem dX11_barest_51 : decode cX11_barest 51 = .ok (.if_icmp .ge 8, 3) := by decide +kernel
theorem dX11_barest_54 : decode cX11_barest 54 = .ok (.iload_n 3, 1) := by decide +kernel
theorem dX11_barest_55 : decode cX11_barest 55 = .ok (.istore_n 1, 1) := by decide +kernel
theorem dX11_barest_56 : decode cX11_barest 56 = .ok (.iload 4, 2) := by decide +kernel
theorem dX11_barest_58 : decode cX11_barest 58 = .ok (.istore_n 2, 1) := by decide +kernel
theorem dX11_barest_59 : decode cX11_barest 59 = .ok (.iinc 3 1, 3) := by decide +kernel
theorem dX11_barest_62 : decode cX11_barest 62 = .ok (.goto (-55), 3) := by decide +kernel
theorem dX11_barest_65 : decode cX11_barest 65 = .ok (.iload_n 1, 1) := by decide +kernel
theorem dX11_barest_66 : decode cX11_barest 66 = .ok (.ireturn, 1) := by decide +kernel
theorem dX11_count_0 : decode cX11_count 0 = .ok (.iload_n 1, 1) := by decide +kernel
theorem dX11_count_1 : decode cX11_count 1 = .ok (.tableswitch 186 0 12 #[67, 75, 83, 91, 99, 107, 119, 131, 142, 150, 162, 170, 178], 67) := by decide +kernel
theorem dX11_count_68 : decode cX11_count 68 = .ok (.aload_n 0, 1) := by decide +kernel
theorem dX11_count_69 : decode cX11_count 69 = .ok (.getfield 23, 3) := by decide +kernel
theorem dX11_count_72 : decode cX11_count 72 = .ok (.getfield 112, 3) := by decide +kernel
theorem dX11_count_75 : decode cX11_count 75 = .ok (.ireturn, 1) := by decide +kernel
theorem dX11_count_76 : decode cX11_count 76 = .ok (.aload_n 0, 1) := by decide +kernel
theorem dX11_count_77 : decode cX11_count 77 = .ok (.getfield 23, 3) := by decide +kernel
theorem dX11_count_80 : decode cX11_count 80 = .ok (.getfield 122, 3) := by decide +kernel
theorem dX11_count_83 : decode cX11_count 83 = .ok (.ireturn, 1) := by decide +kernel
theorem dX11_count_84 : decode cX11_count 84 = .ok (.aload_n 0, 1) := by decide +kernel
theorem dX11_count_85 : decode cX11_count 85 = .ok (.getfield 23, 3) := by decide +kernel
theorem dX11_count_88 : decode cX11_count 88 = .ok (.getfield 186, 3) := by decide +kernel
theorem dX11_count_91 : decode cX11_count 91 = .ok (.ireturn, 1) := by decide +kernel
theorem dX11_count_92 : decode cX11_count 92 = .ok (.aload_n 0, 1) := by decide +kernel
theorem dX11_count_93 : decode cX11_count 93 = .ok (.getfield 23, 3) := by decide +kernel
theorem dX11_count_96 : decode cX11_count 96 = .ok (.getfield 218, 3) := by decide +kernel
theorem dX11_count_99 : decode cX11_count 99 = .ok (.ireturn, 1) := by decide +kernel
theorem dX11_count_100 : decode cX11_count 100 = .ok (.aload_n 0, 1) := by decide +kernel
theorem dX11_count_101 : decode cX11_count 101 = .ok (.getfield 30, 3) := by decide +kernel
theorem dX11_count_104 : decode cX11_count 104 = .ok (.getfield 221, 3) := by decide +kernel
theorem dX11_count_107 : decode cX11_count 107 = .ok (.ireturn, 1) := by decide +kernel
theorem dX11_count_108 : decode cX11_count 108 = .ok (.aload_n 0, 1) := by decide +kernel
theorem dX11_count_109 : decode cX11_count 109 = .ok (.getfield 30, 3) := by decide +kernel
theorem dX11_count_112 : decode cX11_count 112 = .ok (.aload_n 0, 1) := by decide +kernel
theorem dX11_count_113 : decode cX11_count 113 = .ok (.getfield 23, 3) := by decide +kernel
theorem dX11_count_116 : decode cX11_count 116 = .ok (.invokevirtual 224, 3) := by decide +kernel
theorem dX11_count_119 : decode cX11_count 119 = .ok (.ireturn, 1) := by decide +kernel
theorem dX11_count_120 : decode cX11_count 120 = .ok (.aload_n 0, 1) := by decide +kernel
theorem dX11_count_121 : decode cX11_count 121 = .ok (.getfield 30, 3) := by decide +kernel
theorem dX11_count_124 : decode cX11_count 124 = .ok (.aload_n 0, 1) := by decide +kernel
theorem dX11_count_125 : decode cX11_count 125 = .ok (.getfield 23, 3) := by decide +kernel
theorem dX11_count_128 : decode cX11_count 128 = .ok (.invokevirtual 228, 3) := by decide +kernel
theorem dX11_count_131 : decode cX11_count 131 = .ok (.ireturn, 1) := by decide +kernel
theorem dX11_count_132 : decode cX11_count 132 = .ok (.aload_n 0, 1) := by decide +kernel
theorem dX11_count_133 : decode cX11_count 133 = .ok (.getfield 30, 3) := by decide +kernel
theorem dX11_count_136 : decode cX11_count 136 = .ok (.getfield 150, 3) := by decide +kernel
theorem dX11_count_139 : decode cX11_count 139 = .ok (.invokestatic 231, 3) := by decide +kernel
theorem dX11_count_142 : decode cX11_count 142 = .ok (.ireturn, 1) := by decide +kernel
theorem dX11_count_143 : decode cX11_count 143 = .ok (.aload_n 0, 1) := by decide +kernel
theorem dX11_count_144 : decode cX11_count 144 = .ok (.getfield 30, 3) := by decide +kernel
theorem dX11_count_147 : decode cX11_count 147 = .ok (.getfield 234, 3) := by decide +kernel
theorem dX11_count_150 : decode cX11_count 150 = .ok (.ireturn, 1) := by decide +kernel
theorem dX11_count_151 : decode cX11_count 151 = .ok (.aload_n 0, 1) := by decide +kernel
theorem dX11_count_152 : decode cX11_count 152 = .ok (.getfield 30, 3) := by decide +kernel
theorem dX11_count_155 : decode cX11_count 155 = .ok (.aload_n 0, 1) := by decide +kernel
theorem dX11_count_156 : decode cX11_count 156 = .ok (.getfield 23, 3) := by decide +kernel
theorem dX11_count_159 : decode cX11_count 159 = .ok (.invokevirtual 237, 3) := by decide +kernel
theorem dX11_count_162 : decode cX11_count 162 = .ok (.ireturn, 1) := by decide +kernel
theorem dX11_count_163 : decode cX11_count 163 = .ok (.aload_n 0, 1) := by decide +kernel
theorem dX11_count_164 : decode cX11_count 164 = .ok (.getfield 50, 3) := by decide +kernel
theorem dX11_count_167 : decode cX11_count 167 = .ok (.getfield 240, 3) := by decide +kernel
theorem dX11_count_170 : decode cX11_count 170 = .ok (.ireturn, 1) := by decide +kernel
theorem dX11_count_171 : decode cX11_count 171 = .ok (.aload_n 0, 1) := by decide +kernel
theorem dX11_count_172 : decode cX11_count 172 = .ok (.getfield 50, 3) := by decide +kernel
theorem dX11_count_175 : decode cX11_count 175 = .ok (.invokevirtual 241, 3) := by decide +kernel
theorem dX11_count_178 : decode cX11_count 178 = .ok (.ireturn, 1) := by decide +kernel
theorem dX11_count_179 : decode cX11_count 179 = .ok (.aload_n 0, 1) := by decide +kernel
theorem dX11_count_180 : decode cX11_count 180 = .ok (.getfield 57, 3) := by decide +kernel
theorem dX11_count_183 : decode cX11_count 183 = .ok (.getfield 94, 3) := by decide +kernel
theorem dX11_count_186 : decode cX11_count 186 = .ok (.ireturn, 1) := by decide +kernel
theorem dX11_count_187 : decode cX11_count 187 = .ok (.iconst (-1), 1) := by decide +kernel
theorem dX11_count_188 : decode cX11_count 188 = .ok (.ireturn, 1) := by decide +kernel
theorem dX11_lay_0 : decode cX11_lay 0 = .ok (.aload_n 0, 1) := by decide +kernel
theorem dX11_lay_1 : decode cX11_lay 1 = .ok (.iload_n 1, 1) := by decide +kernel
theorem dX11_lay_2 : decode cX11_lay 2 = .ok (.invokevirtual 162, 3) := by decide +kernel
theorem dX11_lay_5 : decode cX11_lay 5 = .ok (.ifCond .eq 26, 3) := by decide +kernel
theorem dX11_lay_8 : decode cX11_lay 8 = .ok (.iload_n 2, 1) := by decide +kernel
theorem dX11_lay_9 : decode cX11_lay 9 = .ok (.invokestatic 165, 3) := by decide +kernel
theorem dX11_lay_12 : decode cX11_lay 12 = .ok (.ifCond .eq 19, 3) := by decide +kernel
theorem dX11_lay_15 : decode cX11_lay 15 = .ok (.iload_n 3, 1) := by decide +kernel
theorem dX11_lay_16 : decode cX11_lay 16 = .ok (.ifCond .eq 15, 3) := by decide +kernel
theorem dX11_lay_19 : decode cX11_lay 19 = .ok (.iload_n 3, 1) := by decide +kernel
theorem dX11_lay_20 : decode cX11_lay 20 = .ok (.bipush (-20), 2) := by decide +kernel
theorem dX11_lay_22 : decode cX11_lay 22 = .ok (.if_icmp .lt 9, 3) := by decide +kernel
theorem dX11_lay_25 : decode cX11_lay 25 = .ok (.iload_n 3, 1) := by decide +kernel
theorem dX11_lay_26 : decode cX11_lay 26 = .ok (.bipush 20, 2) := by decide +kernel
theorem dX11_lay_28 : decode cX11_lay 28 = .ok (.if_icmp .le 6, 3) := by decide +kernel
theorem dX11_lay_31 : decode cX11_lay 31 = .ok (.ldc 168, 2) := by decide +kernel
theorem dX11_lay_33 : decode cX11_lay 33 = .ok (.ireturn, 1) := by decide +kernel
theorem dX11_lay_34 : decode cX11_lay 34 = .ok (.aload_n 0, 1) := by decide +kernel
theorem dX11_lay_35 : decode cX11_lay 35 = .ok (.getfield 30, 3) := by decide +kernel
theorem dX11_lay_38 : decode cX11_lay 38 = .ok (.iload_n 1, 1) := by decide +kernel
theorem dX11_lay_39 : decode cX11_lay 39 = .ok (.iload_n 2, 1) := by decide +kernel
theorem dX11_lay_40 : decode cX11_lay 40 = .ok (.iload_n 3, 1) := by decide +kernel
theorem dX11_lay_41 : decode cX11_lay 41 = .ok (.invokevirtual 245, 3) := by decide +kernel
theorem dX11_lay_44 : decode cX11_lay 44 = .ok (.ifCond .ne 6, 3) := by decide +kernel
theorem dX11_lay_47 : decode cX11_lay 47 = .ok (.ldc 168, 2) := by decide +kernel
theorem dX11_lay_49 : decode cX11_lay 49 = .ok (.ireturn, 1) := by decide +kernel
theorem dX11_lay_50 : decode cX11_lay 50 = .ok (.aload_n 0, 1) := by decide +kernel
theorem dX11_lay_51 : decode cX11_lay 51 = .ok (.getfield 57, 3) := by decide +kernel
theorem dX11_lay_54 : decode cX11_lay 54 = .ok (.iconst 0, 1) := by decide +kernel
theorem dX11_lay_55 : decode cX11_lay 55 = .ok (.iload_n 1, 1) := by decide +kernel
theorem dX11_lay_56 : decode cX11_lay 56 = .ok (.iload_n 2, 1) := by decide +kernel
theorem dX11_lay_57 : decode cX11_lay 57 = .ok (.iload_n 3, 1) := by decide +kernel
theorem dX11_lay_58 : decode cX11_lay 58 = .ok (.invokevirtual 249, 3) := by decide +kernel
theorem dX11_lay_61 : decode cX11_lay 61 = .ok (.aload_n 0, 1) := by decide +kernel
theorem dX11_lay_62 : decode cX11_lay 62 = .ok (.getfield 30, 3) := by decide +kernel
theorem dX11_lay_65 : decode cX11_lay 65 = .ok (.iload_n 1, 1) := by decide +kernel
theorem dX11_lay_66 : decode cX11_lay 66 = .ok (.iload_n 2, 1) := by decide +kernel
theorem dX11_lay_67 : decode cX11_lay 67 = .ok (.invokevirtual 169, 3) := by decide +kernel
theorem dX11_lay_70 : decode cX11_lay 70 = .ok (.ireturn, 1) := by decide +kernel
theorem dX11_peel_0 : decode cX11_peel 0 = .ok (.aload_n 0, 1) := by decide +kernel
theorem dX11_peel_1 : decode cX11_peel 1 = .ok (.iload_n 1, 1) := by decide +kernel
theorem dX11_peel_2 : decode cX11_peel 2 = .ok (.invokevirtual 162, 3) := by decide +kernel
theorem dX11_peel_5 : decode cX11_peel 5 = .ok (.ifCond .eq 16, 3) := by decide +kernel
theorem dX11_peel_8 : decode cX11_peel 8 = .ok (.aload_n 0, 1) := by decide +kernel
theorem dX11_peel_9 : decode cX11_peel 9 = .ok (.getfield 30, 3) := by decide +kernel
theorem dX11_peel_12 : decode cX11_peel 12 = .ok (.getfield 173, 3) := by decide +kernel
theorem dX11_peel_15 : decode cX11_peel 15 = .ok (.iload_n 1, 1) := by decide +kernel
theorem dX11_peel_16 : decode cX11_peel 16 = .ok (.iaload, 1) := by decide +kernel
theorem dX11_peel_17 : decode cX11_peel 17 = .ok (.iconst 1, 1) := by decide +kernel
theorem dX11_peel_18 : decode cX11_peel 18 = .ok (.if_icmp .ge 5, 3) := by decide +kernel
theorem dX11_peel_21 : decode cX11_peel 21 = .ok (.iconst (-1), 1) := by decide +kernel
theorem dX11_peel_22 : decode cX11_peel 22 = .ok (.ireturn, 1) := by decide +kernel
theorem dX11_peel_23 : decode cX11_peel 23 = .ok (.iload_n 1, 1) := by decide +kernel
theorem dX11_peel_24 : decode cX11_peel 24 = .ok (.bipush 12, 2) := by decide +kernel
theorem dX11_peel_26 : decode cX11_peel 26 = .ok (.imul, 1) := by decide +kernel
theorem dX11_peel_27 : decode cX11_peel 27 = .ok (.aload_n 0, 1) := by decide +kernel
theorem dX11_peel_28 : decode cX11_peel 28 = .ok (.getfield 30, 3) := by decide +kernel
theorem dX11_peel_31 : decode cX11_peel 31 = .ok (.getfield 173, 3) := by decide +kernel
theorem dX11_peel_34 : decode cX11_peel 34 = .ok (.iload_n 1, 1) := by decide +kernel
theorem dX11_peel_35 : decode cX11_peel 35 = .ok (.iaload, 1) := by decide +kernel
theorem dX11_peel_36 : decode cX11_peel 36 = .ok (.iadd, 1) := by decide +kernel
theorem dX11_peel_37 : decode cX11_peel 37 = .ok (.iconst 1, 1) := by decide +kernel
theorem dX11_peel_38 : decode cX11_peel 38 = .ok (.isub, 1) := by decide +kernel
theorem dX11_peel_39 : decode cX11_peel 39 = .ok (.istore_n 2, 1) := by decide +kernel
theorem dX11_peel_40 : decode cX11_peel 40 = .ok (.aload_n 0, 1) := by decide +kernel
theorem dX11_peel_41 : decode cX11_peel 41 = .ok (.getfield 57, 3) := by decide +kernel
theorem dX11_peel_44 : decode cX11_peel 44 = .ok (.iconst 1, 1) := by decide +kernel
theorem dX11_peel_45 : decode cX11_peel 45 = .ok (.iload_n 1, 1) := by decide +kernel
theorem dX11_peel_46 : decode cX11_peel 46 = .ok (.aload_n 0, 1) := by decide +kernel
theorem dX11_peel_47 : decode cX11_peel 47 = .ok (.getfield 30, 3) := by decide +kernel
theorem dX11_peel_50 : decode cX11_peel 50 = .ok (.getfield 176, 3) := by decide +kernel
theorem dX11_peel_53 : decode cX11_peel 53 = .ok (.iload_n 2, 1) := by decide +kernel
theorem dX11_peel_54 : decode cX11_peel 54 = .ok (.iaload, 1) := by decide +kernel
theorem dX11_peel_55 : decode cX11_peel 55 = .ok (.aload_n 0, 1) := by decide +kernel
theorem dX11_peel_56 : decode cX11_peel 56 = .ok (.getfield 30, 3) := by decide +kernel
theorem dX11_peel_59 : decode cX11_peel 59 = .ok (.getfield 179, 3) := by decide +kernel
theorem dX11_peel_62 : decode cX11_peel 62 = .ok (.iload_n 2, 1) := by decide +kernel
theorem dX11_peel_63 : decode cX11_peel 63 = .ok (.iaload, 1) := by decide +kernel
theorem dX11_peel_64 : decode cX11_peel 64 = .ok (.invokevirtual 249, 3) := by decide +kernel
theorem dX11_peel_67 : decode cX11_peel 67 = .ok (.aload_n 0, 1) := by decide +kernel
theorem dX11_peel_68 : decode cX11_peel 68 = .ok (.getfield 30, 3) := by decide +kernel
theorem dX11_peel_71 : decode cX11_peel 71 = .ok (.iload_n 1, 1) := by decide +kernel
theorem dX11_peel_72 : decode cX11_peel 72 = .ok (.invokevirtual 253, 3) := by decide +kernel
theorem dX11_peel_75 : decode cX11_peel 75 = .ok (.aload_n 0, 1) := by decide +kernel
theorem dX11_peel_76 : decode cX11_peel 76 = .ok (.getfield 30, 3) := by decide +kernel
theorem dX11_peel_79 : decode cX11_peel 79 = .ok (.getfield 173, 3) := by decide +kernel
theorem dX11_peel_82 : decode cX11_peel 82 = .ok (.iload_n 1, 1) := by decide +kernel
theorem dX11_peel_83 : decode cX11_peel 83 = .ok (.iaload, 1) := by decide +kernel
theorem dX11_peel_84 : decode cX11_peel 84 = .ok (.ireturn, 1) := by decide +kernel
theorem dX11_move_0 : decode cX11_move 0 = .ok (.aload_n 0, 1) := by decide +kernel
theorem dX11_move_1 : decode cX11_move 1 = .ok (.iload_n 1, 1) := by decide +kernel
theorem dX11_move_2 : decode cX11_move 2 = .ok (.invokevirtual 125, 3) := by decide +kernel
theorem dX11_move_5 : decode cX11_move 5 = .ok (.ifCond .eq 24, 3) := by decide +kernel
theorem dX11_move_8 : decode cX11_move 8 = .ok (.aload_n 0, 1) := by decide +kernel
theorem dX11_move_9 : decode cX11_move 9 = .ok (.iload_n 2, 1) := by decide +kernel
theorem dX11_move_10 : decode cX11_move 10 = .ok (.invokevirtual 162, 3) := by decide +kernel
theorem dX11_move_13 : decode cX11_move 13 = .ok (.ifCond .eq 16, 3) := by decide +kernel
theorem dX11_move_16 : decode cX11_move 16 = .ok (.aload_n 0, 1) := by decide +kernel
theorem dX11_move_17 : decode cX11_move 17 = .ok (.getfield 30, 3) := by decide +kernel
theorem dX11_move_20 : decode cX11_move 20 = .ok (.getfield 135, 3) := by decide +kernel
theorem dX11_move_23 : decode cX11_move 23 = .ok (.iload_n 1, 1) := by decide +kernel
theorem dX11_move_24 : decode cX11_move 24 = .ok (.iaload, 1) := by decide +kernel
theorem dX11_move_25 : decode cX11_move 25 = .ok (.iload_n 2, 1) := by decide +kernel
theorem dX11_move_26 : decode cX11_move 26 = .ok (.if_icmp .ne 5, 3) := by decide +kernel
theorem dX11_move_29 : decode cX11_move 29 = .ok (.iconst 0, 1) := by decide +kernel
theorem dX11_move_30 : decode cX11_move 30 = .ok (.ireturn, 1) := by decide +kernel
theorem dX11_move_31 : decode cX11_move 31 = .ok (.aload_n 0, 1) := by decide +kernel
theorem dX11_move_32 : decode cX11_move 32 = .ok (.getfield 57, 3) := by decide +kernel
theorem dX11_move_35 : decode cX11_move 35 = .ok (.iconst 2, 1) := by decide +kernel
theorem dX11_move_36 : decode cX11_move 36 = .ok (.iload_n 1, 1) := by decide +kernel
theorem dX11_move_37 : decode cX11_move 37 = .ok (.aload_n 0, 1) := by decide +kernel
theorem dX11_move_38 : decode cX11_move 38 = .ok (.getfield 30, 3) := by decide +kernel
theorem dX11_move_41 : decode cX11_move 41 = .ok (.getfield 135, 3) := by decide +kernel
theorem dX11_move_44 : decode cX11_move 44 = .ok (.iload_n 1, 1) := by decide +kernel
theorem dX11_move_45 : decode cX11_move 45 = .ok (.iaload, 1) := by decide +kernel
theorem dX11_move_46 : decode cX11_move 46 = .ok (.iconst 0, 1) := by decide +kernel
theorem dX11_move_47 : decode cX11_move 47 = .ok (.invokevirtual 249, 3) := by decide +kernel
theorem dX11_move_50 : decode cX11_move 50 = .ok (.aload_n 0, 1) := by decide +kernel
theorem dX11_move_51 : decode cX11_move 51 = .ok (.getfield 30, 3) := by decide +kernel
theorem dX11_move_54 : decode cX11_move 54 = .ok (.getfield 135, 3) := by decide +kernel
theorem dX11_move_57 : decode cX11_move 57 = .ok (.iload_n 1, 1) := by decide +kernel
theorem dX11_move_58 : decode cX11_move 58 = .ok (.iload_n 2, 1) := by decide +kernel
theorem dX11_move_59 : decode cX11_move 59 = .ok (.iastore, 1) := by decide +kernel
theorem dX11_move_60 : decode cX11_move 60 = .ok (.iconst 1, 1) := by decide +kernel
theorem dX11_move_61 : decode cX11_move 61 = .ok (.ireturn, 1) := by decide +kernel
theorem dX11_undo_0 : decode cX11_undo 0 = .ok (.aload_n 0, 1) := by decide +kernel
theorem dX11_undo_1 : decode cX11_undo 1 = .ok (.getfield 57, 3) := by decide +kernel
theorem dX11_undo_4 : decode cX11_undo 4 = .ok (.getfield 94, 3) := by decide +kernel
theorem dX11_undo_7 : decode cX11_undo 7 = .ok (.iconst 1, 1) := by decide +kernel
theorem dX11_undo_8 : decode cX11_undo 8 = .ok (.if_icmp .ge 5, 3) := by decide +kernel
theorem dX11_undo_11 : decode cX11_undo 11 = .ok (.iconst (-1), 1) := by decide +kernel
theorem dX11_undo_12 : decode cX11_undo 12 = .ok (.ireturn, 1) := by decide +kernel
theorem dX11_undo_13 : decode cX11_undo 13 = .ok (.aload_n 0, 1) := by decide +kernel
theorem dX11_undo_14 : decode cX11_undo 14 = .ok (.getfield 57, 3) := by decide +kernel
theorem dX11_undo_17 : decode cX11_undo 17 = .ok (.dup, 1) := by decide +kernel
theorem dX11_undo_18 : decode cX11_undo 18 = .ok (.getfield 94, 3) := by decide +kernel
theorem dX11_undo_21 : decode cX11_undo 21 = .ok (.iconst 1, 1) := by decide +kernel
theorem dX11_undo_22 : decode cX11_undo 22 = .ok (.isub, 1) := by decide +kernel
theorem dX11_undo_23 : decode cX11_undo 23 = .ok (.putfield 94, 3) := by decide +kernel
theorem dX11_undo_26 : decode cX11_undo 26 = .ok (.aload_n 0, 1) := by decide +kernel
theorem dX11_undo_27 : decode cX11_undo 27 = .ok (.getfield 57, 3) := by decide +kernel
theorem dX11_undo_30 : decode cX11_undo 30 = .ok (.getfield 94, 3) := by decide +kernel
theorem dX11_undo_33 : decode cX11_undo 33 = .ok (.istore_n 1, 1) := by decide +kernel
theorem dX11_undo_34 : decode cX11_undo 34 = .ok (.aload_n 0, 1) := by decide +kernel
theorem dX11_undo_35 : decode cX11_undo 35 = .ok (.getfield 57, 3) := by decide +kernel
theorem dX11_undo_38 : decode cX11_undo 38 = .ok (.getfield 256, 3) := by decide +kernel
theorem dX11_undo_41 : decode cX11_undo 41 = .ok (.iload_n 1, 1) := by decide +kernel
theorem dX11_undo_42 : decode cX11_undo 42 = .ok (.iaload, 1) := by decide +kernel
theorem dX11_undo_43 : decode cX11_undo 43 = .ok (.lookupswitch 82 #[(0, 25), (1, 44)], 25) := by decide +kernel
theorem dX11_undo_68 : decode cX11_undo 68 = .ok (.aload_n 0, 1) := by decide +kernel
theorem dX11_undo_69 : decode cX11_undo 69 = .ok (.getfield 30, 3) := by decide +kernel
theorem dX11_undo_72 : decode cX11_undo 72 = .ok (.aload_n 0, 1) := by decide +kernel
theorem dX11_undo_73 : decode cX11_undo 73 = .ok (.getfield 57, 3) := by decide +kernel
theorem dX11_undo_76 : decode cX11_undo 76 = .ok (.getfield 259, 3) := by decide +kernel
theorem dX11_undo_79 : decode cX11_undo 79 = .ok (.iload_n 1, 1) := by decide +kernel
theorem dX11_undo_80 : decode cX11_undo 80 = .ok (.iaload, 1) := by decide +kernel
theorem dX11_undo_81 : decode cX11_undo 81 = .ok (.invokevirtual 253, 3) := by decide +kernel
theorem dX11_undo_84 : decode cX11_undo 84 = .ok (.goto 67, 3) := by decide +kernel
theorem dX11_undo_87 : decode cX11_undo 87 = .ok (.aload_n 0, 1) := by decide +kernel
theorem dX11_undo_88 : decode cX11_undo 88 = .ok (.getfield 30, 3) := by decide +kernel
theorem dX11_undo_91 : decode cX11_undo 91 = .ok (.aload_n 0, 1) := by decide +kernel
theorem dX11_undo_92 : decode cX11_undo 92 = .ok (.getfield 57, 3) := by decide +kernel
theorem dX11_undo_95 : decode cX11_undo 95 = .ok (.getfield 259, 3) := by decide +kernel
theorem dX11_undo_98 : decode cX11_undo 98 = .ok (.iload_n 1, 1) := by decide +kernel
theorem dX11_undo_99 : decode cX11_undo 99 = .ok (.iaload, 1) := by decide +kernel
theorem dX11_undo_100 : decode cX11_undo 100 = .ok (.aload_n 0, 1) := by decide +kernel
theorem dX11_undo_101 : decode cX11_undo 101 = .ok (.getfield 57, 3) := by decide +kernel
theorem dX11_undo_104 : decode cX11_undo 104 = .ok (.getfield 262, 3) := by decide +kernel
theorem dX11_undo_107 : decode cX11_undo 107 = .ok (.iload_n 1, 1) := by decide +kernel
theorem dX11_undo_108 : decode cX11_undo 108 = .ok (.iaload, 1) := by decide +kernel
theorem dX11_undo_109 : decode cX11_undo 109 = .ok (.aload_n 0, 1) := by decide +kernel
theorem dX11_undo_110 : decode cX11_undo 110 = .ok (.getfield 57, 3) := by decide +kernel
theorem dX11_undo_113 : decode cX11_undo 113 = .ok (.getfield 265, 3) := by decide +kernel
theorem dX11_undo_116 : decode cX11_undo 116 = .ok (.iload_n 1, 1) := by decide +kernel
theorem dX11_undo_117 : decode cX11_undo 117 = .ok (.iaload, 1) := by decide +kernel
theorem dX11_undo_118 : decode cX11_undo 118 = .ok (.invokevirtual 245, 3) := by decide +kernel
theorem dX11_undo_121 : decode cX11_undo 121 = .ok (.pop, 1) := by decide +kernel
theorem dX11_undo_122 : decode cX11_undo 122 = .ok (.goto 29, 3) := by decide +kernel
theorem dX11_undo_125 : decode cX11_undo 125 = .ok (.aload_n 0, 1) := by decide +kernel
theorem dX11_undo_126 : decode cX11_undo 126 = .ok (.getfield 30, 3) := by decide +kernel
theorem dX11_undo_129 : decode cX11_undo 129 = .ok (.getfield 135, 3) := by decide +kernel
theorem dX11_undo_132 : decode cX11_undo 132 = .ok (.aload_n 0, 1) := by decide +kernel
theorem dX11_undo_133 : decode cX11_undo 133 = .ok (.getfield 57, 3) := by decide +kernel
theorem dX11_undo_136 : decode cX11_undo 136 = .ok (.getfield 259, 3) := by decide +kernel
theorem dX11_undo_139 : decode cX11_undo 139 = .ok (.iload_n 1, 1) := by decide +kernel
theorem dX11_undo_140 : decode cX11_undo 140 = .ok (.iaload, 1) := by decide +kernel
theorem dX11_undo_141 : decode cX11_undo 141 = .ok (.aload_n 0, 1) := by decide +kernel
theorem dX11_undo_142 : decode cX11_undo 142 = .ok (.getfield 57, 3) := by decide +kernel
theorem dX11_undo_145 : decode cX11_undo 145 = .ok (.getfield 262, 3) := by decide +kernel
theorem dX11_undo_148 : decode cX11_undo 148 = .ok (.iload_n 1, 1) := by decide +kernel
theorem dX11_undo_149 : decode cX11_undo 149 = .ok (.iaload, 1) := by decide +kernel
theorem dX11_undo_150 : decode cX11_undo 150 = .ok (.iastore, 1) := by decide +kernel
theorem dX11_undo_151 : decode cX11_undo 151 = .ok (.aload_n 0, 1) := by decide +kernel
theorem dX11_undo_152 : decode cX11_undo 152 = .ok (.getfield 57, 3) := by decide +kernel
theorem dX11_undo_155 : decode cX11_undo 155 = .ok (.getfield 94, 3) := by decide +kernel
theorem dX11_undo_158 : decode cX11_undo 158 = .ok (.ireturn, 1) := by decide +kernel
theorem dX11_keep_0 : decode cX11_keep 0 = .ok (.aload_n 0, 1) := by decide +kernel
theorem dX11_keep_1 : decode cX11_keep 1 = .ok (.getfield 34, 3) := by decide +kernel
theorem dX11_keep_4 : decode cX11_keep 4 = .ok (.aload_n 0, 1) := by decide +kernel
theorem dX11_keep_5 : decode cX11_keep 5 = .ok (.getfield 30, 3) := by decide +kernel
theorem dX11_keep_8 : decode cX11_keep 8 = .ok (.invokevirtual 268, 3) := by decide +kernel
theorem dX11_keep_11 : decode cX11_keep 11 = .ok (.aload_n 0, 1) := by decide +kernel
theorem dX11_keep_12 : decode cX11_keep 12 = .ok (.iconst 1, 1) := by decide +kernel
theorem dX11_keep_13 : decode cX11_keep 13 = .ok (.putfield 95, 3) := by decide +kernel
theorem dX11_keep_16 : decode cX11_keep 16 = .ok (.aload_n 0, 1) := by decide +kernel
theorem dX11_keep_17 : decode cX11_keep 17 = .ok (.getfield 30, 3) := by decide +kernel
theorem dX11_keep_20 : decode cX11_keep 20 = .ok (.getfield 221, 3) := by decide +kernel
theorem dX11_keep_23 : decode cX11_keep 23 = .ok (.ireturn, 1) := by decide +kernel
theorem dX11_back_0 : decode cX11_back 0 = .ok (.aload_n 0, 1) := by decide +kernel
theorem dX11_back_1 : decode cX11_back 1 = .ok (.getfield 95, 3) := by decide +kernel
theorem dX11_back_4 : decode cX11_back 4 = .ok (.ifCond .ne 5, 3) := by decide +kernel
theorem dX11_back_7 : decode cX11_back 7 = .ok (.iconst (-1), 1) := by decide +kernel
theorem dX11_back_8 : decode cX11_back 8 = .ok (.ireturn, 1) := by decide +kernel
theorem dX11_back_9 : decode cX11_back 9 = .ok (.aload_n 0, 1) := by decide +kernel
theorem dX11_back_10 : decode cX11_back 10 = .ok (.getfield 30, 3) := by decide +kernel
theorem dX11_back_13 : decode cX11_back 13 = .ok (.aload_n 0, 1) := by decide +kernel
theorem dX11_back_14 : decode cX11_back 14 = .ok (.getfield 34, 3) := by decide +kernel
theorem dX11_back_17 : decode cX11_back 17 = .ok (.invokevirtual 268, 3) := by decide +kernel
theorem dX11_back_20 : decode cX11_back 20 = .ok (.aload_n 0, 1) := by decide +kernel
theorem dX11_back_21 : decode cX11_back 21 = .ok (.getfield 57, 3) := by decide +kernel
theorem dX11_back_24 : decode cX11_back 24 = .ok (.iconst 0, 1) := by decide +kernel
theorem dX11_back_25 : decode cX11_back 25 = .ok (.putfield 94, 3) := by decide +kernel
theorem dX11_back_28 : decode cX11_back 28 = .ok (.aload_n 0, 1) := by decide +kernel
theorem dX11_back_29 : decode cX11_back 29 = .ok (.getfield 30, 3) := by decide +kernel
theorem dX11_back_32 : decode cX11_back 32 = .ok (.getfield 221, 3) := by decide +kernel
theorem dX11_back_35 : decode cX11_back 35 = .ok (.ireturn, 1) := by decide +kernel
theorem dX11_go_0 : decode cX11_go 0 = .ok (.iload_n 1, 1) := by decide +kernel
theorem dX11_go_1 : decode cX11_go 1 = .ok (.ifCond .lt 25, 3) := by decide +kernel
theorem dX11_go_4 : decode cX11_go 4 = .ok (.iload_n 1, 1) := by decide +kernel
theorem dX11_go_5 : decode cX11_go 5 = .ok (.sipush 200, 3) := by decide +kernel
theorem dX11_go_8 : decode cX11_go 8 = .ok (.if_icmp .gt 18, 3) := by decide +kernel
theorem dX11_go_11 : decode cX11_go 11 = .ok (.aload_n 0, 1) := by decide +kernel
theorem dX11_go_12 : decode cX11_go 12 = .ok (.getfield 30, 3) := by decide +kernel
theorem dX11_go_15 : decode cX11_go 15 = .ok (.getfield 221, 3) := by decide +kernel
theorem dX11_go_18 : decode cX11_go 18 = .ok (.iload_n 1, 1) := by decide +kernel
theorem dX11_go_19 : decode cX11_go 19 = .ok (.iadd, 1) := by decide +kernel
theorem dX11_go_20 : decode cX11_go 20 = .ok (.sipush 9000, 3) := by decide +kernel
theorem dX11_go_23 : decode cX11_go 23 = .ok (.if_icmp .le 5, 3) := by decide +kernel
theorem dX11_go_26 : decode cX11_go 26 = .ok (.iconst (-1), 1) := by decide +kernel
theorem dX11_go_27 : decode cX11_go 27 = .ok (.ireturn, 1) := by decide +kernel
theorem dX11_go_28 : decode cX11_go 28 = .ok (.iconst 0, 1) := by decide +kernel
theorem dX11_go_29 : decode cX11_go 29 = .ok (.istore_n 2, 1) := by decide +kernel
theorem dX11_go_30 : decode cX11_go 30 = .ok (.iload_n 2, 1) := by decide +kernel
theorem dX11_go_31 : decode cX11_go 31 = .ok (.iload_n 1, 1) := by decide +kernel
theorem dX11_go_32 : decode cX11_go 32 = .ok (.if_icmp .ge 26, 3) := by decide +kernel
theorem dX11_go_35 : decode cX11_go 35 = .ok (.aload_n 0, 1) := by decide +kernel
theorem dX11_go_36 : decode cX11_go 36 = .ok (.getfield 43, 3) := by decide +kernel
theorem dX11_go_39 : decode cX11_go 39 = .ok (.aload_n 0, 1) := by decide +kernel
theorem dX11_go_40 : decode cX11_go 40 = .ok (.getfield 23, 3) := by decide +kernel
theorem dX11_go_43 : decode cX11_go 43 = .ok (.aload_n 0, 1) := by decide +kernel
theorem dX11_go_44 : decode cX11_go 44 = .ok (.getfield 30, 3) := by decide +kernel
theorem dX11_go_47 : decode cX11_go 47 = .ok (.bipush 6, 2) := by decide +kernel
theorem dX11_go_49 : decode cX11_go 49 = .ok (.invokevirtual 272, 3) := by decide +kernel
theorem dX11_go_52 : decode cX11_go 52 = .ok (.iinc 2 1, 3) := by decide +kernel
theorem dX11_go_55 : decode cX11_go 55 = .ok (.goto (-25), 3) := by decide +kernel
theorem dX11_go_58 : decode cX11_go 58 = .ok (.iload_n 1, 1) := by decide +kernel
theorem dX11_go_59 : decode cX11_go 59 = .ok (.ifCond .le 11, 3) := by decide +kernel
theorem dX11_go_62 : decode cX11_go 62 = .ok (.aload_n 0, 1) := by decide +kernel
theorem dX11_go_63 : decode cX11_go 63 = .ok (.getfield 57, 3) := by decide +kernel
theorem dX11_go_66 : decode cX11_go 66 = .ok (.iconst 0, 1) := by decide +kernel
theorem dX11_go_67 : decode cX11_go 67 = .ok (.putfield 94, 3) := by decide +kernel
theorem dX11_go_70 : decode cX11_go 70 = .ok (.aload_n 0, 1) := by decide +kernel
theorem dX11_go_71 : decode cX11_go 71 = .ok (.getfield 30, 3) := by decide +kernel
theorem dX11_go_74 : decode cX11_go 74 = .ok (.getfield 221, 3) := by decide +kernel
theorem dX11_go_77 : decode cX11_go 77 = .ok (.ireturn, 1) := by decide +kernel
theorem dX11_ahead_0 : decode cX11_ahead 0 = .ok (.iload_n 2, 1) := by decide +kernel
theorem dX11_ahead_1 : decode cX11_ahead 1 = .ok (.ifCond .lt 38, 3) := by decide +kernel
theorem dX11_ahead_4 : decode cX11_ahead 4 = .ok (.iload_n 2, 1) := by decide +kernel
theorem dX11_ahead_5 : decode cX11_ahead 5 = .ok (.iconst 4, 1) := by decide +kernel
theorem dX11_ahead_6 : decode cX11_ahead 6 = .ok (.if_icmp .gt 33, 3) := by decide +kernel
theorem dX11_ahead_9 : decode cX11_ahead 9 = .ok (.iload_n 2, 1) := by decide +kernel
theorem dX11_ahead_10 : decode cX11_ahead 10 = .ok (.iconst 1, 1) := by decide +kernel
theorem dX11_ahead_11 : decode cX11_ahead 11 = .ok (.if_icmp .ne 11, 3) := by decide +kernel
theorem dX11_ahead_14 : decode cX11_ahead 14 = .ok (.aload_n 0, 1) := by decide +kernel
theorem dX11_ahead_15 : decode cX11_ahead 15 = .ok (.iload_n 3, 1) := by decide +kernel
theorem dX11_ahead_16 : decode cX11_ahead 16 = .ok (.invokevirtual 125, 3) := by decide +kernel
theorem dX11_ahead_19 : decode cX11_ahead 19 = .ok (.ifCond .eq 20, 3) := by decide +kernel
theorem dX11_ahead_22 : decode cX11_ahead 22 = .ok (.iload_n 2, 1) := by decide +kernel
theorem dX11_ahead_23 : decode cX11_ahead 23 = .ok (.iconst 2, 1) := by decide +kernel
theorem dX11_ahead_24 : decode cX11_ahead 24 = .ok (.if_icmp .ne 11, 3) := by decide +kernel
theorem dX11_ahead_27 : decode cX11_ahead 27 = .ok (.aload_n 0, 1) := by decide +kernel
theorem dX11_ahead_28 : decode cX11_ahead 28 = .ok (.iload_n 3, 1) := by decide +kernel
theorem dX11_ahead_29 : decode cX11_ahead 29 = .ok (.invokevirtual 162, 3) := by decide +kernel
theorem dX11_ahead_32 : decode cX11_ahead 32 = .ok (.ifCond .eq 7, 3) := by decide +kernel
theorem dX11_ahead_35 : decode cX11_ahead 35 = .ok (.iconst 1, 1) := by decide +kernel
theorem dX11_ahead_36 : decode cX11_ahead 36 = .ok (.goto 4, 3) := by decide +kernel
theorem dX11_ahead_39 : decode cX11_ahead 39 = .ok (.iconst 0, 1) := by decide +kernel
theorem dX11_ahead_40 : decode cX11_ahead 40 = .ok (.istore 4, 2) := by decide +kernel
theorem dX11_ahead_42 : decode cX11_ahead 42 = .ok (.iload 4, 2) := by decide +kernel
theorem dX11_ahead_44 : decode cX11_ahead 44 = .ok (.ifCond .eq 14, 3) := by decide +kernel
theorem dX11_ahead_47 : decode cX11_ahead 47 = .ok (.iload_n 1, 1) := by decide +kernel
theorem dX11_ahead_48 : decode cX11_ahead 48 = .ok (.ifCond .lt 10, 3) := by decide +kernel
theorem dX11_ahead_51 : decode cX11_ahead 51 = .ok (.iload_n 1, 1) := by decide +kernel
theorem dX11_ahead_52 : decode cX11_ahead 52 = .ok (.sipush 200, 3) := by decide +kernel
theorem dX11_ahead_55 : decode cX11_ahead 55 = .ok (.if_icmp .le 6, 3) := by decide +kernel
theorem dX11_ahead_58 : decode cX11_ahead 58 = .ok (.ldc 168, 2) := by decide +kernel
theorem dX11_ahead_60 : decode cX11_ahead 60 = .ok (.ireturn, 1) := by decide +kernel
theorem dX11_ahead_61 : decode cX11_ahead 61 = .ok (.aload_n 0, 1) := by decide +kernel
theorem dX11_ahead_62 : decode cX11_ahead 62 = .ok (.getfield 37, 3) := by decide +kernel
theorem dX11_ahead_65 : decode cX11_ahead 65 = .ok (.aload_n 0, 1) := by decide +kernel
theorem dX11_ahead_66 : decode cX11_ahead 66 = .ok (.getfield 30, 3) := by decide +kernel
theorem dX11_ahead_69 : decode cX11_ahead 69 = .ok (.invokevirtual 268, 3) := by decide +kernel
theorem dX11_ahead_72 : decode cX11_ahead 72 = .ok (.aload_n 0, 1) := by decide +kernel
theorem dX11_ahead_73 : decode cX11_ahead 73 = .ok (.iload_n 1, 1) := by decide +kernel
theorem dX11_ahead_74 : decode cX11_ahead 74 = .ok (.iconst 5, 1) := by decide +kernel
theorem dX11_ahead_75 : decode cX11_ahead 75 = .ok (.invokevirtual 276, 3) := by decide +kernel
theorem dX11_ahead_78 : decode cX11_ahead 78 = .ok (.iload_n 2, 1) := by decide +kernel
theorem dX11_ahead_79 : decode cX11_ahead 79 = .ok (.tableswitch 83 0 3 #[29, 53, 63, 72], 29) := by decide +kernel
theorem dX11_ahead_108 : decode cX11_ahead 108 = .ok (.aload_n 0, 1) := by decide +kernel
theorem dX11_ahead_109 : decode cX11_ahead 109 = .ok (.getfield 37, 3) := by decide +kernel
theorem dX11_ahead_112 : decode cX11_ahead 112 = .ok (.aload_n 0, 1) := by decide +kernel
theorem dX11_ahead_113 : decode cX11_ahead 113 = .ok (.getfield 23, 3) := by decide +kernel
theorem dX11_ahead_116 : decode cX11_ahead 116 = .ok (.invokevirtual 224, 3) := by decide +kernel
theorem dX11_ahead_119 : decode cX11_ahead 119 = .ok (.aload_n 0, 1) := by decide +kernel
theorem dX11_ahead_120 : decode cX11_ahead 120 = .ok (.getfield 30, 3) := by decide +kernel
theorem dX11_ahead_123 : decode cX11_ahead 123 = .ok (.aload_n 0, 1) := by decide +kernel
theorem dX11_ahead_124 : decode cX11_ahead 124 = .ok (.getfield 23, 3) := by decide +kernel
theorem dX11_ahead_127 : decode cX11_ahead 127 = .ok (.invokevirtual 224, 3) := by decide +kernel
theorem dX11_ahead_130 : decode cX11_ahead 130 = .ok (.isub, 1) := by decide +kernel
theorem dX11_ahead_131 : decode cX11_ahead 131 = .ok (.ireturn, 1) := by decide +kernel
theorem dX11_ahead_132 : decode cX11_ahead 132 = .ok (.aload_n 0, 1) := by decide +kernel
theorem dX11_ahead_133 : decode cX11_ahead 133 = .ok (.getfield 37, 3) := by decide +kernel
theorem dX11_ahead_136 : decode cX11_ahead 136 = .ok (.getfield 147, 3) := by decide +kernel
theorem dX11_ahead_139 : decode cX11_ahead 139 = .ok (.iload_n 3, 1) := by decide +kernel
theorem dX11_ahead_140 : decode cX11_ahead 140 = .ok (.iaload, 1) := by decide +kernel
theorem dX11_ahead_141 : decode cX11_ahead 141 = .ok (.ireturn, 1) := by decide +kernel
theorem dX11_ahead_142 : decode cX11_ahead 142 = .ok (.aload_n 0, 1) := by decide +kernel
theorem dX11_ahead_143 : decode cX11_ahead 143 = .ok (.getfield 37, 3) := by decide +kernel
theorem dX11_ahead_146 : decode cX11_ahead 146 = .ok (.iload_n 3, 1) := by decide +kernel
theorem dX11_ahead_147 : decode cX11_ahead 147 = .ok (.invokevirtual 206, 3) := by decide +kernel
theorem dX11_ahead_150 : decode cX11_ahead 150 = .ok (.ireturn, 1) := by decide +kernel
theorem dX11_ahead_151 : decode cX11_ahead 151 = .ok (.aload_n 0, 1) := by decide +kernel
theorem dX11_ahead_152 : decode cX11_ahead 152 = .ok (.getfield 37, 3) := by decide +kernel
theorem dX11_ahead_155 : decode cX11_ahead 155 = .ok (.getfield 150, 3) := by decide +kernel
theorem dX11_ahead_158 : decode cX11_ahead 158 = .ok (.invokestatic 231, 3) := by decide +kernel
theorem dX11_ahead_161 : decode cX11_ahead 161 = .ok (.ireturn, 1) := by decide +kernel
theorem dX11_ahead_162 : decode cX11_ahead 162 = .ok (.aload_n 0, 1) := by decide +kernel
theorem dX11_ahead_163 : decode cX11_ahead 163 = .ok (.getfield 37, 3) := by decide +kernel
theorem dX11_ahead_166 : decode cX11_ahead 166 = .ok (.getfield 234, 3) := by decide +kernel
theorem dX11_ahead_169 : decode cX11_ahead 169 = .ok (.aload_n 0, 1) := by decide +kernel
theorem dX11_ahead_170 : decode cX11_ahead 170 = .ok (.getfield 30, 3) := by decide +kernel
theorem dX11_ahead_173 : decode cX11_ahead 173 = .ok (.getfield 234, 3) := by decide +kernel
theorem dX11_ahead_176 : decode cX11_ahead 176 = .ok (.isub, 1) := by decide +kernel
theorem dX11_ahead_177 : decode cX11_ahead 177 = .ok (.ireturn, 1) := by decide +kernel
theorem dX11_runTrial_0 : decode cX11_runTrial 0 = .ok (.iconst 0, 1) := by decide +kernel
theorem dX11_runTrial_1 : decode cX11_runTrial 1 = .ok (.istore_n 3, 1) := by decide +kernel
theorem dX11_runTrial_2 : decode cX11_runTrial 2 = .ok (.iload_n 3, 1) := by decide +kernel
theorem dX11_runTrial_3 : decode cX11_runTrial 3 = .ok (.iload_n 1, 1) := by decide +kernel
theorem dX11_runTrial_4 : decode cX11_runTrial 4 = .ok (.if_icmp .ge 25, 3) := by decide +kernel
theorem dX11_runTrial_7 : decode cX11_runTrial 7 = .ok (.aload_n 0, 1) := by decide +kernel
theorem dX11_runTrial_8 : decode cX11_runTrial 8 = .ok (.getfield 43, 3) := by decide +kernel
theorem dX11_runTrial_11 : decode cX11_runTrial 11 = .ok (.aload_n 0, 1) := by decide +kernel
theorem dX11_runTrial_12 : decode cX11_runTrial 12 = .ok (.getfield 23, 3) := by decide +kernel
theorem dX11_runTrial_15 : decode cX11_runTrial 15 = .ok (.aload_n 0, 1) := by decide +kernel
theorem dX11_runTrial_16 : decode cX11_runTrial 16 = .ok (.getfield 37, 3) := by decide +kernel
theorem dX11_runTrial_19 : decode cX11_runTrial 19 = .ok (.iload_n 2, 1) := by decide +kernel
theorem dX11_runTrial_20 : decode cX11_runTrial 20 = .ok (.invokevirtual 272, 3) := by decide +kernel
theorem dX11_runTrial_23 : decode cX11_runTrial 23 = .ok (.iinc 3 1, 3) := by decide +kernel
theorem dX11_runTrial_26 : decode cX11_runTrial 26 = .ok (.goto (-24), 3) := by decide +kernel
theorem dX11_runTrial_29 : decode cX11_runTrial 29 = .ok (.return_, 1) := by decide +kernel
theorem dX11_firstCorn_0 : decode cX11_firstCorn 0 = .ok (.iload_n 1, 1) := by decide +kernel
theorem dX11_firstCorn_1 : decode cX11_firstCorn 1 = .ok (.ifCond .eq 10, 3) := by decide +kernel
theorem dX11_firstCorn_4 : decode cX11_firstCorn 4 = .ok (.iload_n 1, 1) := by decide +kernel
theorem dX11_firstCorn_5 : decode cX11_firstCorn 5 = .ok (.iconst 1, 1) := by decide +kernel
theorem dX11_firstCorn_6 : decode cX11_firstCorn 6 = .ok (.if_icmp .eq 5, 3) := by decide +kernel
theorem dX11_firstCorn_9 : decode cX11_firstCorn 9 = .ok (.iconst (-1), 1) := by decide +kernel
theorem dX11_firstCorn_10 : decode cX11_firstCorn 10 = .ok (.ireturn, 1) := by decide +kernel
theorem dX11_firstCorn_11 : decode cX11_firstCorn 11 = .ok (.aload_n 0, 1) := by decide +kernel
theorem dX11_firstCorn_12 : decode cX11_firstCorn 12 = .ok (.getfield 37, 3) := by decide +kernel
theorem dX11_firstCorn_15 : decode cX11_firstCorn 15 = .ok (.aload_n 0, 1) := by decide +kernel
theorem dX11_firstCorn_16 : decode cX11_firstCorn 16 = .ok (.getfield 30, 3) := by decide +kernel
theorem dX11_firstCorn_19 : decode cX11_firstCorn 19 = .ok (.invokevirtual 268, 3) := by decide +kernel
theorem dX11_firstCorn_22 : decode cX11_firstCorn 22 = .ok (.iconst 1, 1) := by decide +kernel
theorem dX11_firstCorn_23 : decode cX11_firstCorn 23 = .ok (.istore_n 2, 1) := by decide +kernel
theorem dX11_firstCorn_24 : decode cX11_firstCorn 24 = .ok (.iload_n 2, 1) := by decide +kernel
theorem dX11_firstCorn_25 : decode cX11_firstCorn 25 = .ok (.sipush 200, 3) := by decide +kernel
theorem dX11_firstCorn_28 : decode cX11_firstCorn 28 = .ok (.if_icmp .ge 45, 3) := by decide +kernel
theorem dX11_firstCorn_31 : decode cX11_firstCorn 31 = .ok (.aload_n 0, 1) := by decide +kernel
theorem dX11_firstCorn_32 : decode cX11_firstCorn 32 = .ok (.getfield 43, 3) := by decide +kernel
theorem dX11_firstCorn_35 : decode cX11_firstCorn 35 = .ok (.aload_n 0, 1) := by decide +kernel
theorem dX11_firstCorn_36 : decode cX11_firstCorn 36 = .ok (.getfield 23, 3) := by decide +kernel
theorem dX11_firstCorn_39 : decode cX11_firstCorn 39 = .ok (.aload_n 0, 1) := by decide +kernel
theorem dX11_firstCorn_40 : decode cX11_firstCorn 40 = .ok (.getfield 37, 3) := by decide +kernel
theorem dX11_firstCorn_43 : decode cX11_firstCorn 43 = .ok (.iconst 5, 1) := by decide +kernel
theorem dX11_firstCorn_44 : decode cX11_firstCorn 44 = .ok (.invokevirtual 272, 3) := by decide +kernel
theorem dX11_firstCorn_47 : decode cX11_firstCorn 47 = .ok (.aload_n 0, 1) := by decide +kernel
theorem dX11_firstCorn_48 : decode cX11_firstCorn 48 = .ok (.invokevirtual 280, 3) := by decide +kernel
theorem dX11_firstCorn_51 : decode cX11_firstCorn 51 = .ok (.istore_n 3, 1) := by decide +kernel
theorem dX11_firstCorn_52 : decode cX11_firstCorn 52 = .ok (.iload_n 3, 1) := by decide +kernel
theorem dX11_firstCorn_53 : decode cX11_firstCorn 53 = .ok (.iconst (-1), 1) := by decide +kernel
theorem dX11_firstCorn_54 : decode cX11_firstCorn 54 = .ok (.if_icmp .eq 13, 3) := by decide +kernel
theorem dX11_firstCorn_57 : decode cX11_firstCorn 57 = .ok (.iload_n 1, 1) := by decide +kernel
theorem dX11_firstCorn_58 : decode cX11_firstCorn 58 = .ok (.ifCond .ne 7, 3) := by decide +kernel
theorem dX11_firstCorn_61 : decode cX11_firstCorn 61 = .ok (.iload_n 2, 1) := by decide +kernel
theorem dX11_firstCorn_62 : decode cX11_firstCorn 62 = .ok (.goto 4, 3) := by decide +kernel
theorem dX11_firstCorn_65 : decode cX11_firstCorn 65 = .ok (.iload_n 3, 1) := by decide +kernel
theorem dX11_firstCorn_66 : decode cX11_firstCorn 66 = .ok (.ireturn, 1) := by decide +kernel
theorem dX11_firstCorn_67 : decode cX11_firstCorn 67 = .ok (.iinc 2 1, 3) := by decide +kernel
theorem dX11_firstCorn_70 : decode cX11_firstCorn 70 = .ok (.goto (-46), 3) := by decide +kernel
theorem dX11_firstCorn_73 : decode cX11_firstCorn 73 = .ok (.bipush (-2), 2) := by decide +kernel
theorem dX11_firstCorn_75 : decode cX11_firstCorn 75 = .ok (.ireturn, 1) := by decide +kernel
theorem dX11_firstWithMoreCorns_0 : decode cX11_firstWithMoreCorns 0 = .ok (.iconst 0, 1) := by decide +kernel
theorem dX11_firstWithMoreCorns_1 : decode cX11_firstWithMoreCorns 1 = .ok (.istore_n 1, 1) := by decide +kernel
theorem dX11_firstWithMoreCorns_2 : decode cX11_firstWithMoreCorns 2 = .ok (.iload_n 1, 1) := by decide +kernel
theorem dX11_firstWithMoreCorns_3 : decode cX11_firstWithMoreCorns 3 = .ok (.aload_n 0, 1) := by decide +kernel
theorem dX11_firstWithMoreCorns_4 : decode cX11_firstWithMoreCorns 4 = .ok (.getfield 23, 3) := by decide +kernel
theorem dX11_firstWithMoreCorns_7 : decode cX11_firstWithMoreCorns 7 = .ok (.getfield 122, 3) := by decide +kernel
theorem dX11_firstWithMoreCorns_10 : decode cX11_firstWithMoreCorns 10 = .ok (.if_icmp .ge 32, 3) := by decide +kernel
theorem dX11_firstWithMoreCorns_13 : decode cX11_firstWithMoreCorns 13 = .ok (.aload_n 0, 1) := by decide +kernel
theorem dX11_firstWithMoreCorns_14 : decode cX11_firstWithMoreCorns 14 = .ok (.getfield 37, 3) := by decide +kernel
theorem dX11_firstWithMoreCorns_17 : decode cX11_firstWithMoreCorns 17 = .ok (.getfield 147, 3) := by decide +kernel
theorem dX11_firstWithMoreCorns_20 : decode cX11_firstWithMoreCorns 20 = .ok (.iload_n 1, 1) := by decide +kernel
theorem dX11_firstWithMoreCorns_21 : decode cX11_firstWithMoreCorns 21 = .ok (.iaload, 1) := by decide +kernel
theorem dX11_firstWithMoreCorns_22 : decode cX11_firstWithMoreCorns 22 = .ok (.aload_n 0, 1) := by decide +kernel
theorem dX11_firstWithMoreCorns_23 : decode cX11_firstWithMoreCorns 23 = .ok (.getfield 30, 3) := by decide +kernel
theorem dX11_firstWithMoreCorns_26 : decode cX11_firstWithMoreCorns 26 = .ok (.getfield 147, 3) := by decide +kernel
theorem dX11_firstWithMoreCorns_29 : decode cX11_firstWithMoreCorns 29 = .ok (.iload_n 1, 1) := by decide +kernel
theorem dX11_firstWithMoreCorns_30 : decode cX11_firstWithMoreCorns 30 = .ok (.iaload, 1) := by decide +kernel
theorem dX11_firstWithMoreCorns_31 : decode cX11_firstWithMoreCorns 31 = .ok (.if_icmp .le 5, 3) := by decide +kernel
theorem dX11_firstWithMoreCorns_34 : decode cX11_firstWithMoreCorns 34 = .ok (.iload_n 1, 1) := by decide +kernel
theorem dX11_firstWithMoreCorns_35 : decode cX11_firstWithMoreCorns 35 = .ok (.ireturn, 1) := by decide +kernel
theorem dX11_firstWithMoreCorns_36 : decode cX11_firstWithMoreCorns 36 = .ok (.iinc 1 1, 3) := by decide +kernel
theorem dX11_firstWithMoreCorns_39 : decode cX11_firstWithMoreCorns 39 = .ok (.goto (-37), 3) := by decide +kernel
theorem dX11_firstWithMoreCorns_42 : decode cX11_firstWithMoreCorns 42 = .ok (.iconst (-1), 1) := by decide +kernel
theorem dX11_firstWithMoreCorns_43 : decode cX11_firstWithMoreCorns 43 = .ok (.ireturn, 1) := by decide +kernel
theorem dX11_tried_0 : decode cX11_tried 0 = .ok (.iload_n 1, 1) := by decide +kernel
theorem dX11_tried_1 : decode cX11_tried 1 = .ok (.ifCond .lt 19, 3) := by decide +kernel
theorem dX11_tried_4 : decode cX11_tried 4 = .ok (.iload_n 1, 1) := by decide +kernel
theorem dX11_tried_5 : decode cX11_tried 5 = .ok (.iconst 4, 1) := by decide +kernel
theorem dX11_tried_6 : decode cX11_tried 6 = .ok (.if_icmp .gt 14, 3) := by decide +kernel
theorem dX11_tried_9 : decode cX11_tried 9 = .ok (.iload_n 3, 1) := by decide +kernel
theorem dX11_tried_10 : decode cX11_tried 10 = .ok (.ifCond .lt 10, 3) := by decide +kernel
theorem dX11_tried_13 : decode cX11_tried 13 = .ok (.iload_n 3, 1) := by decide +kernel
theorem dX11_tried_14 : decode cX11_tried 14 = .ok (.sipush 200, 3) := by decide +kernel
theorem dX11_tried_17 : decode cX11_tried 17 = .ok (.if_icmp .le 5, 3) := by decide +kernel
theorem dX11_tried_20 : decode cX11_tried 20 = .ok (.iconst (-1), 1) := by decide +kernel
theorem dX11_tried_21 : decode cX11_tried 21 = .ok (.ireturn, 1) := by decide +kernel
theorem dX11_tried_22 : decode cX11_tried 22 = .ok (.iload_n 1, 1) := by decide +kernel
theorem dX11_tried_23 : decode cX11_tried 23 = .ok (.iconst 2, 1) := by decide +kernel
theorem dX11_tried_24 : decode cX11_tried 24 = .ok (.if_icmp .ne 14, 3) := by decide +kernel
theorem dX11_tried_27 : decode cX11_tried 27 = .ok (.aload_n 0, 1) := by decide +kernel
theorem dX11_tried_28 : decode cX11_tried 28 = .ok (.iload_n 2, 1) := by decide +kernel
theorem dX11_tried_29 : decode cX11_tried 29 = .ok (.invokevirtual 162, 3) := by decide +kernel
theorem dX11_tried_32 : decode cX11_tried 32 = .ok (.ifCond .ne 12, 3) := by decide +kernel
theorem dX11_tried_35 : decode cX11_tried 35 = .ok (.goto 7, 3) := by decide +kernel
theorem dX11_tried_38 : decode cX11_tried 38 = .ok (.iload_n 2, 1) := by decide +kernel
theorem dX11_tried_39 : decode cX11_tried 39 = .ok (.ifCond .eq 5, 3) := by decide +kernel
theorem dX11_tried_42 : decode cX11_tried 42 = .ok (.iconst (-1), 1) := by decide +kernel
theorem dX11_tried_43 : decode cX11_tried 43 = .ok (.ireturn, 1) := by decide +kernel
theorem dX11_tried_44 : decode cX11_tried 44 = .ok (.aload_n 0, 1) := by decide +kernel
theorem dX11_tried_45 : decode cX11_tried 45 = .ok (.getfield 37, 3) := by decide +kernel
theorem dX11_tried_48 : decode cX11_tried 48 = .ok (.aload_n 0, 1) := by decide +kernel
theorem dX11_tried_49 : decode cX11_tried 49 = .ok (.getfield 30, 3) := by decide +kernel
theorem dX11_tried_52 : decode cX11_tried 52 = .ok (.invokevirtual 268, 3) := by decide +kernel
theorem dX11_tried_55 : decode cX11_tried 55 = .ok (.iload_n 1, 1) := by decide +kernel
theorem dX11_tried_56 : decode cX11_tried 56 = .ok (.iconst 2, 1) := by decide +kernel
theorem dX11_tried_57 : decode cX11_tried 57 = .ok (.if_icmp .ne 15, 3) := by decide +kernel
theorem dX11_tried_60 : decode cX11_tried 60 = .ok (.aload_n 0, 1) := by decide +kernel
theorem dX11_tried_61 : decode cX11_tried 61 = .ok (.getfield 37, 3) := by decide +kernel
theorem dX11_tried_64 : decode cX11_tried 64 = .ok (.aload_n 0, 1) := by decide +kernel
theorem dX11_tried_65 : decode cX11_tried 65 = .ok (.getfield 23, 3) := by decide +kernel
theorem dX11_tried_68 : decode cX11_tried 68 = .ok (.iload_n 2, 1) := by decide +kernel
theorem dX11_tried_69 : decode cX11_tried 69 = .ok (.invokevirtual 283, 3) := by decide +kernel
theorem dX11_tried_72 : decode cX11_tried 72 = .ok (.aload_n 0, 1) := by decide +kernel
theorem dX11_tried_73 : decode cX11_tried 73 = .ok (.iload_n 3, 1) := by decide +kernel
theorem dX11_tried_74 : decode cX11_tried 74 = .ok (.iload_n 1, 1) := by decide +kernel
theorem dX11_tried_75 : decode cX11_tried 75 = .ok (.invokevirtual 276, 3) := by decide +kernel
theorem dX11_tried_78 : decode cX11_tried 78 = .ok (.aload_n 0, 1) := by decide +kernel
theorem dX11_tried_79 : decode cX11_tried 79 = .ok (.getfield 37, 3) := by decide +kernel
theorem dX11_tried_82 : decode cX11_tried 82 = .ok (.aload_n 0, 1) := by decide +kernel
theorem dX11_tried_83 : decode cX11_tried 83 = .ok (.getfield 23, 3) := by decide +kernel
theorem dX11_tried_86 : decode cX11_tried 86 = .ok (.invokevirtual 224, 3) := by decide +kernel
theorem dX11_tried_89 : decode cX11_tried 89 = .ok (.aload_n 0, 1) := by decide +kernel
theorem dX11_tried_90 : decode cX11_tried 90 = .ok (.getfield 30, 3) := by decide +kernel
theorem dX11_tried_93 : decode cX11_tried 93 = .ok (.aload_n 0, 1) := by decide +kernel
theorem dX11_tried_94 : decode cX11_tried 94 = .ok (.getfield 23, 3) := by decide +kernel
theorem dX11_tried_97 : decode cX11_tried 97 = .ok (.invokevirtual 224, 3) := by decide +kernel
theorem dX11_tried_100 : decode cX11_tried 100 = .ok (.isub, 1) := by decide +kernel
theorem dX11_tried_101 : decode cX11_tried 101 = .ok (.ireturn, 1) := by decide +kernel
theorem dX11_chance_0 : decode cX11_chance 0 = .ok (.iload_n 1, 1) := by decide +kernel
theorem dX11_chance_1 : decode cX11_chance 1 = .ok (.ifCond .lt 34, 3) := by decide +kernel
theorem dX11_chance_4 : decode cX11_chance 4 = .ok (.iload_n 2, 1) := by decide +kernel
theorem dX11_chance_5 : decode cX11_chance 5 = .ok (.iconst 1, 1) := by decide +kernel
theorem dX11_chance_6 : decode cX11_chance 6 = .ok (.if_icmp .lt 29, 3) := by decide +kernel
theorem dX11_chance_9 : decode cX11_chance 9 = .ok (.iload_n 2, 1) := by decide +kernel
theorem dX11_chance_10 : decode cX11_chance 10 = .ok (.bipush 99, 2) := by decide +kernel
theorem dX11_chance_12 : decode cX11_chance 12 = .ok (.if_icmp .gt 23, 3) := by decide +kernel
theorem dX11_chance_15 : decode cX11_chance 15 = .ok (.aload_n 0, 1) := by decide +kernel
theorem dX11_chance_16 : decode cX11_chance 16 = .ok (.iload_n 3, 1) := by decide +kernel
theorem dX11_chance_17 : decode cX11_chance 17 = .ok (.invokevirtual 125, 3) := by decide +kernel
theorem dX11_chance_20 : decode cX11_chance 20 = .ok (.ifCond .eq 15, 3) := by decide +kernel
theorem dX11_chance_23 : decode cX11_chance 23 = .ok (.iload 4, 2) := by decide +kernel
theorem dX11_chance_25 : decode cX11_chance 25 = .ok (.ifCond .lt 10, 3) := by decide +kernel
theorem dX11_chance_28 : decode cX11_chance 28 = .ok (.iload 4, 2) := by decide +kernel
theorem dX11_chance_30 : decode cX11_chance 30 = .ok (.bipush 99, 2) := by decide +kernel
theorem dX11_chance_32 : decode cX11_chance 32 = .ok (.if_icmp .le 5, 3) := by decide +kernel
theorem dX11_chance_35 : decode cX11_chance 35 = .ok (.iconst (-1), 1) := by decide +kernel
theorem dX11_chance_36 : decode cX11_chance 36 = .ok (.ireturn, 1) := by decide +kernel
theorem dX11_chance_37 : decode cX11_chance 37 = .ok (.iload_n 1, 1) := by decide +kernel
theorem dX11_chance_38 : decode cX11_chance 38 = .ok (.istore 5, 2) := by decide +kernel
theorem dX11_chance_40 : decode cX11_chance 40 = .ok (.iconst 0, 1) := by decide +kernel
theorem dX11_chance_41 : decode cX11_chance 41 = .ok (.istore 6, 2) := by decide +kernel
theorem dX11_chance_43 : decode cX11_chance 43 = .ok (.iconst 0, 1) := by decide +kernel
theorem dX11_chance_44 : decode cX11_chance 44 = .ok (.istore 7, 2) := by decide +kernel
theorem dX11_chance_46 : decode cX11_chance 46 = .ok (.iload 7, 2) := by decide +kernel
theorem dX11_chance_48 : decode cX11_chance 48 = .ok (.bipush 10, 2) := by decide +kernel
theorem dX11_chance_50 : decode cX11_chance 50 = .ok (.if_icmp .ge 62, 3) := by decide +kernel
theorem dX11_chance_53 : decode cX11_chance 53 = .ok (.aload_n 0, 1) := by decide +kernel
theorem dX11_chance_54 : decode cX11_chance 54 = .ok (.getfield 37, 3) := by decide +kernel
theorem dX11_chance_57 : decode cX11_chance 57 = .ok (.aload_n 0, 1) := by decide +kernel
theorem dX11_chance_58 : decode cX11_chance 58 = .ok (.getfield 30, 3) := by decide +kernel
theorem dX11_chance_61 : decode cX11_chance 61 = .ok (.invokevirtual 268, 3) := by decide +kernel
theorem dX11_chance_64 : decode cX11_chance 64 = .ok (.aload_n 0, 1) := by decide +kernel
theorem dX11_chance_65 : decode cX11_chance 65 = .ok (.getfield 37, 3) := by decide +kernel
theorem dX11_chance_68 : decode cX11_chance 68 = .ok (.iload 5, 2) := by decide +kernel
theorem dX11_chance_70 : decode cX11_chance 70 = .ok (.putfield 287, 3) := by decide +kernel
theorem dX11_chance_73 : decode cX11_chance 73 = .ok (.aload_n 0, 1) := by decide +kernel
theorem dX11_chance_74 : decode cX11_chance 74 = .ok (.iload_n 2, 1) := by decide +kernel
theorem dX11_chance_75 : decode cX11_chance 75 = .ok (.bipush 6, 2) := by decide +kernel
theorem dX11_chance_77 : decode cX11_chance 77 = .ok (.invokevirtual 276, 3) := by decide +kernel
theorem dX11_chance_80 : decode cX11_chance 80 = .ok (.aload_n 0, 1) := by decide +kernel
theorem dX11_chance_81 : decode cX11_chance 81 = .ok (.getfield 37, 3) := by decide +kernel
theorem dX11_chance_84 : decode cX11_chance 84 = .ok (.getfield 287, 3) := by decide +kernel
theorem dX11_chance_87 : decode cX11_chance 87 = .ok (.istore 5, 2) := by decide +kernel
theorem dX11_chance_89 : decode cX11_chance 89 = .ok (.aload_n 0, 1) := by decide +kernel
theorem dX11_chance_90 : decode cX11_chance 90 = .ok (.getfield 37, 3) := by decide +kernel
theorem dX11_chance_93 : decode cX11_chance 93 = .ok (.getfield 147, 3) := by decide +kernel
theorem dX11_chance_96 : decode cX11_chance 96 = .ok (.iload_n 3, 1) := by decide +kernel
theorem dX11_chance_97 : decode cX11_chance 97 = .ok (.iaload, 1) := by decide +kernel
theorem dX11_chance_98 : decode cX11_chance 98 = .ok (.iload 4, 2) := by decide +kernel
theorem dX11_chance_100 : decode cX11_chance 100 = .ok (.if_icmp .lt 6, 3) := by decide +kernel
theorem dX11_chance_103 : decode cX11_chance 103 = .ok (.iinc 6 1, 3) := by decide +kernel
theorem dX11_chance_106 : decode cX11_chance 106 = .ok (.iinc 7 1, 3) := by decide +kernel
theorem dX11_chance_109 : decode cX11_chance 109 = .ok (.goto (-63), 3) := by decide +kernel
theorem dX11_chance_112 : decode cX11_chance 112 = .ok (.iload 6, 2) := by decide +kernel
theorem dX11_chance_114 : decode cX11_chance 114 = .ok (.ireturn, 1) := by decide +kernel
theorem dX11_dry_0 : decode cX11_dry 0 = .ok (.iload_n 1, 1) := by decide +kernel
theorem dX11_dry_1 : decode cX11_dry 1 = .ok (.ifCond .lt 18, 3) := by decide +kernel
theorem dX11_dry_4 : decode cX11_dry 4 = .ok (.iload_n 1, 1) := by decide +kernel
theorem dX11_dry_5 : decode cX11_dry 5 = .ok (.bipush 6, 2) := by decide +kernel
theorem dX11_dry_7 : decode cX11_dry 7 = .ok (.if_icmp .gt 12, 3) := by decide +kernel
theorem dX11_dry_10 : decode cX11_dry 10 = .ok (.iload_n 2, 1) := by decide +kernel
theorem dX11_dry_11 : decode cX11_dry 11 = .ok (.ifCond .lt 8, 3) := by decide +kernel
theorem dX11_dry_14 : decode cX11_dry 14 = .ok (.iload_n 2, 1) := by decide +kernel
theorem dX11_dry_15 : decode cX11_dry 15 = .ok (.iconst 1, 1) := by decide +kernel
theorem dX11_dry_16 : decode cX11_dry 16 = .ok (.if_icmp .le 7, 3) := by decide +kernel
theorem dX11_dry_19 : decode cX11_dry 19 = .ok (.ldc2_w 290, 3) := by decide +kernel
theorem dX11_dry_22 : decode cX11_dry 22 = .ok (.lreturn, 1) := by decide +kernel
theorem dX11_dry_23 : decode cX11_dry 23 = .ok (.bipush 100, 2) := by decide +kernel
theorem dX11_dry_25 : decode cX11_dry 25 = .ok (.aload_n 0, 1) := by decide +kernel
theorem dX11_dry_26 : decode cX11_dry 26 = .ok (.getfield 23, 3) := by decide +kernel
theorem dX11_dry_29 : decode cX11_dry 29 = .ok (.getfield 292, 3) := by decide +kernel
theorem dX11_dry_32 : decode cX11_dry 32 = .ok (.isub, 1) := by decide +kernel
theorem dX11_dry_33 : decode cX11_dry 33 = .ok (.i2l, 1) := by decide +kernel
theorem dX11_dry_34 : decode cX11_dry 34 = .ok (.lstore_n 3, 1) := by decide +kernel
theorem dX11_dry_35 : decode cX11_dry 35 = .ok (.ldc2_w 295, 3) := by decide +kernel
theorem dX11_dry_38 : decode cX11_dry 38 = .ok (.lstore 5, 2) := by decide +kernel
theorem dX11_dry_40 : decode cX11_dry 40 = .ok (.lload_n 3, 1) := by decide +kernel
theorem dX11_dry_41 : decode cX11_dry 41 = .ok (.lload 5, 2) := by decide +kernel
theorem dX11_dry_43 : decode cX11_dry 43 = .ok (.invokestatic 297, 3) := by decide +kernel
theorem dX11_dry_46 : decode cX11_dry 46 = .ok (.lstore 7, 2) := by decide +kernel
theorem dX11_dry_48 : decode cX11_dry 48 = .ok (.iload_n 2, 1) := by decide +kernel
theorem dX11_dry_49 : decode cX11_dry 49 = .ok (.ifCond .ne 7, 3) := by decide +kernel
theorem dX11_dry_52 : decode cX11_dry 52 = .ok (.lload_n 3, 1) := by decide +kernel
theorem dX11_dry_53 : decode cX11_dry 53 = .ok (.goto 5, 3) := by decide +kernel
theorem dX11_dry_56 : decode cX11_dry 56 = .ok (.lload 5, 2) := by decide +kernel
theorem dX11_dry_58 : decode cX11_dry 58 = .ok (.lload 7, 2) := by decide +kernel
theorem dX11_dry_60 : decode cX11_dry 60 = .ok (.ldiv, 1) := by decide +kernel
theorem dX11_dry_61 : decode cX11_dry 61 = .ok (.lstore 9, 2) := by decide +kernel
theorem dX11_dry_63 : decode cX11_dry 63 = .ok (.lconst 1, 1) := by decide +kernel
theorem dX11_dry_64 : decode cX11_dry 64 = .ok (.lstore 11, 2) := by decide +kernel
theorem dX11_dry_66 : decode cX11_dry 66 = .ok (.iconst 0, 1) := by decide +kernel
theorem dX11_dry_67 : decode cX11_dry 67 = .ok (.istore 13, 2) := by decide +kernel
theorem dX11_dry_69 : decode cX11_dry 69 = .ok (.iload 13, 2) := by decide +kernel
theorem dX11_dry_71 : decode cX11_dry 71 = .ok (.iload_n 1, 1) := by decide +kernel
theorem dX11_dry_72 : decode cX11_dry 72 = .ok (.if_icmp .ge 16, 3) := by decide +kernel
theorem dX11_dry_75 : decode cX11_dry 75 = .ok (.lload 11, 2) := by decide +kernel
theorem dX11_dry_77 : decode cX11_dry 77 = .ok (.lload 9, 2) := by decide +kernel
theorem dX11_dry_79 : decode cX11_dry 79 = .ok (.lmul, 1) := by decide +kernel
theorem dX11_dry_80 : decode cX11_dry 80 = .ok (.lstore 11, 2) := by decide +kernel
theorem dX11_dry_82 : decode cX11_dry 82 = .ok (.iinc 13 1, 3) := by decide +kernel
theorem dX11_dry_85 : decode cX11_dry 85 = .ok (.goto (-16), 3) := by decide +kernel
theorem dX11_dry_88 : decode cX11_dry 88 = .ok (.lload 11, 2) := by decide +kernel
theorem dX11_dry_90 : decode cX11_dry 90 = .ok (.lreturn, 1) := by decide +kernel
theorem dX11_greatestShared_0 : decode cX11_greatestShared 0 = .ok (.lload_n 0, 1) := by decide +kernel
theorem dX11_greatestShared_1 : decode cX11_greatestShared 1 = .ok (.lstore 4, 2) := by decide +kernel
theorem dX11_greatestShared_3 : decode cX11_greatestShared 3 = .ok (.lload_n 2, 1) := by decide +kernel
theorem dX11_greatestShared_4 : decode cX11_greatestShared 4 = .ok (.lstore 6, 2) := by decide +kernel
theorem dX11_greatestShared_6 : decode cX11_greatestShared 6 = .ok (.iconst 0, 1) := by decide +kernel
theorem dX11_greatestShared_7 : decode cX11_greatestShared 7 = .ok (.istore 8, 2) := by decide +kernel
theorem dX11_greatestShared_9 : decode cX11_greatestShared 9 = .ok (.iload 8, 2) := by decide +kernel
theorem dX11_greatestShared_11 : decode cX11_greatestShared 11 = .ok (.bipush 100, 2) := by decide +kernel
theorem dX11_greatestShared_13 : decode cX11_greatestShared 13 = .ok (.if_icmp .ge 31, 3) := by decide +kernel
theorem dX11_greatestShared_16 : decode cX11_greatestShared 16 = .ok (.lload 6, 2) := by decide +kernel
theorem dX11_greatestShared_18 : decode cX11_greatestShared 18 = .ok (.lconst 0, 1) := by decide +kernel
theorem dX11_greatestShared_19 : decode cX11_greatestShared 19 = .ok (.lcmp, 1) := by decide +kernel
theorem dX11_greatestShared_20 : decode cX11_greatestShared 20 = .ok (.ifCond .eq 24, 3) := by decide +kernel
theorem dX11_greatestShared_23 : decode cX11_greatestShared 23 = .ok (.lload 4, 2) := by decide +kernel
theorem dX11_greatestShared_25 : decode cX11_greatestShared 25 = .ok (.lload 6, 2) := by decide +kernel
theorem dX11_greatestShared_27 : decode cX11_greatestShared 27 = .ok (.lrem, 1) := by decide +kernel
theorem dX11_greatestShared_28 : decode cX11_greatestShared 28 = .ok (.lstore 9, 2) := by decide +kernel
theorem dX11_greatestShared_30 : decode cX11_greatestShared 30 = .ok (.lload 6, 2) := by decide +kernel
theorem dX11_greatestShared_32 : decode cX11_greatestShared 32 = .ok (.lstore 4, 2) := by decide +kernel
theorem dX11_greatestShared_34 : decode cX11_greatestShared 34 = .ok (.lload 9, 2) := by decide +kernel
theorem dX11_greatestShared_36 : decode cX11_greatestShared 36 = .ok (.lstore 6, 2) := by decide +kernel
theorem dX11_greatestShared_38 : decode cX11_greatestShared 38 = .ok (.iinc 8 1, 3) := by decide +kernel
theorem dX11_greatestShared_41 : decode cX11_greatestShared 41 = .ok (.goto (-32), 3) := by decide +kernel
theorem dX11_greatestShared_44 : decode cX11_greatestShared 44 = .ok (.lload 4, 2) := by decide +kernel
theorem dX11_greatestShared_46 : decode cX11_greatestShared 46 = .ok (.lconst 1, 1) := by decide +kernel
theorem dX11_greatestShared_47 : decode cX11_greatestShared 47 = .ok (.lcmp, 1) := by decide +kernel
theorem dX11_greatestShared_48 : decode cX11_greatestShared 48 = .ok (.ifCond .ge 7, 3) := by decide +kernel
theorem dX11_greatestShared_51 : decode cX11_greatestShared 51 = .ok (.lconst 1, 1) := by decide +kernel
theorem dX11_greatestShared_52 : decode cX11_greatestShared 52 = .ok (.goto 5, 3) := by decide +kernel
theorem dX11_greatestShared_55 : decode cX11_greatestShared 55 = .ok (.lload 4, 2) := by decide +kernel
theorem dX11_greatestShared_57 : decode cX11_greatestShared 57 = .ok (.lreturn, 1) := by decide +kernel
theorem dX11_nearest_0 : decode cX11_nearest 0 = .ok (.aload_n 0, 1) := by decide +kernel
theorem dX11_nearest_1 : decode cX11_nearest 1 = .ok (.iload_n 1, 1) := by decide +kernel
theorem dX11_nearest_2 : decode cX11_nearest 2 = .ok (.invokevirtual 125, 3) := by decide +kernel
theorem dX11_nearest_5 : decode cX11_nearest 5 = .ok (.ifCond .ne 5, 3) := by decide +kernel
theorem dX11_nearest_8 : decode cX11_nearest 8 = .ok (.iconst (-1), 1) := by decide +kernel
theorem dX11_nearest_9 : decode cX11_nearest 9 = .ok (.ireturn, 1) := by decide +kernel
theorem dX11_nearest_10 : decode cX11_nearest 10 = .ok (.bipush (-2), 2) := by decide +kernel
theorem dX11_nearest_12 : decode cX11_nearest 12 = .ok (.istore_n 2, 1) := by decide +kernel
theorem dX11_nearest_13 : decode cX11_nearest 13 = .ok (.iconst 0, 1) := by decide +kernel
theorem dX11_nearest_14 : decode cX11_nearest 14 = .ok (.istore_n 3, 1) := by decide +kernel
theorem dX11_nearest_15 : decode cX11_nearest 15 = .ok (.iconst 0, 1) := by decide +kernel
theorem dX11_nearest_16 : decode cX11_nearest 16 = .ok (.istore 4, 2) := by decide +kernel
theorem dX11_nearest_18 : decode cX11_nearest 18 = .ok (.iload 4, 2) := by decide +kernel
theorem dX11_nearest_20 : decode cX11_nearest 20 = .ok (.aload_n 0, 1) := by decide +kernel
theorem dX11_nearest_21 : decode cX11_nearest 21 = .ok (.getfield 23, 3) := by decide +kernel
theorem dX11_nearest_24 : decode cX11_nearest 24 = .ok (.getfield 112, 3) := by decide +kernel
theorem dX11_nearest_27 : decode cX11_nearest 27 = .ok (.if_icmp .ge 43, 3) := by decide +kernel
theorem dX11_nearest_30 : decode cX11_nearest 30 = .ok (.aload_n 0, 1) := by decide +kernel
theorem dX11_nearest_31 : decode cX11_nearest 31 = .ok (.getfield 30, 3) := by decide +kernel
theorem dX11_nearest_34 : decode cX11_nearest 34 = .ok (.aload_n 0, 1) := by decide +kernel
theorem dX11_nearest_35 : decode cX11_nearest 35 = .ok (.getfield 23, 3) := by decide +kernel
theorem dX11_nearest_38 : decode cX11_nearest 38 = .ok (.iload_n 1, 1) := by decide +kernel
theorem dX11_nearest_39 : decode cX11_nearest 39 = .ok (.iload 4, 2) := by decide +kernel
theorem dX11_nearest_41 : decode cX11_nearest 41 = .ok (.invokevirtual 182, 3) := by decide +kernel
theorem dX11_nearest_44 : decode cX11_nearest 44 = .ok (.istore 5, 2) := by decide +kernel
theorem dX11_nearest_46 : decode cX11_nearest 46 = .ok (.iload_n 2, 1) := by decide +kernel
theorem dX11_nearest_47 : decode cX11_nearest 47 = .ok (.bipush (-2), 2) := by decide +kernel
theorem dX11_nearest_49 : decode cX11_nearest 49 = .ok (.if_icmp .eq 9, 3) := by decide +kernel
theorem dX11_nearest_52 : decode cX11_nearest 52 = .ok (.iload 5, 2) := by decide +kernel
theorem dX11_nearest_54 : decode cX11_nearest 54 = .ok (.iload_n 3, 1) := by decide +kernel
theorem dX11_nearest_55 : decode cX11_nearest 55 = .ok (.if_icmp .ge 9, 3) := by decide +kernel
theorem dX11_nearest_58 : decode cX11_nearest 58 = .ok (.iload 4, 2) := by decide +kernel
theorem dX11_nearest_60 : decode cX11_nearest 60 = .ok (.istore_n 2, 1) := by decide +kernel
theorem dX11_nearest_61 : decode cX11_nearest 61 = .ok (.iload 5, 2) := by decide +kernel
theorem dX11_nearest_63 : decode cX11_nearest 63 = .ok (.istore_n 3, 1) := by decide +kernel
theorem dX11_nearest_64 : decode cX11_nearest 64 = .ok (.iinc 4 1, 3) := by decide +kernel
theorem dX11_nearest_67 : decode cX11_nearest 67 = .ok (.goto (-49), 3) := by decide +kernel
theorem dX11_nearest_70 : decode cX11_nearest 70 = .ok (.iload_n 2, 1) := by decide +kernel
theorem dX11_nearest_71 : decode cX11_nearest 71 = .ok (.ireturn, 1) := by decide +kernel
theorem dX11_likeness_0 : decode cX11_likeness 0 = .ok (.aload_n 0, 1) := by decide +kernel
theorem dX11_likeness_1 : decode cX11_likeness 1 = .ok (.iload_n 1, 1) := by decide +kernel
theorem dX11_likeness_2 : decode cX11_likeness 2 = .ok (.iload_n 2, 1) := by decide +kernel
theorem dX11_likeness_3 : decode cX11_likeness 3 = .ok (.invokevirtual 210, 3) := by decide +kernel
theorem dX11_likeness_6 : decode cX11_likeness 6 = .ok (.ifCond .eq 15, 3) := by decide +kernel
theorem dX11_likeness_9 : decode cX11_likeness 9 = .ok (.aload_n 0, 1) := by decide +kernel
theorem dX11_likeness_10 : decode cX11_likeness 10 = .ok (.getfield 30, 3) := by decide +kernel
theorem dX11_likeness_13 : decode cX11_likeness 13 = .ok (.iload_n 1, 1) := by decide +kernel
theorem dX11_likeness_14 : decode cX11_likeness 14 = .ok (.iload_n 2, 1) := by decide +kernel
theorem dX11_likeness_15 : decode cX11_likeness 15 = .ok (.invokevirtual 301, 3) := by decide +kernel
theorem dX11_likeness_18 : decode cX11_likeness 18 = .ok (.goto 4, 3) := by decide +kernel
theorem dX11_likeness_21 : decode cX11_likeness 21 = .ok (.iconst (-1), 1) := by decide +kernel
theorem dX11_likeness_22 : decode cX11_likeness 22 = .ok (.ireturn, 1) := by decide +kernel
theorem dX11_heart_0 : decode cX11_heart 0 = .ok (.iload_n 1, 1) := by decide +kernel
theorem dX11_heart_1 : decode cX11_heart 1 = .ok (.invokestatic 165, 3) := by decide +kernel
theorem dX11_heart_4 : decode cX11_heart 4 = .ok (.ifCond .eq 13, 3) := by decide +kernel
theorem dX11_heart_7 : decode cX11_heart 7 = .ok (.aload_n 0, 1) := by decide +kernel
theorem dX11_heart_8 : decode cX11_heart 8 = .ok (.getfield 23, 3) := by decide +kernel
theorem dX11_heart_11 : decode cX11_heart 11 = .ok (.getfield 112, 3) := by decide +kernel
theorem dX11_heart_14 : decode cX11_heart 14 = .ok (.ifCond .ne 6, 3) := by decide +kernel
theorem dX11_heart_17 : decode cX11_heart 17 = .ok (.ldc 168, 2) := by decide +kernel
theorem dX11_heart_19 : decode cX11_heart 19 = .ok (.ireturn, 1) := by decide +kernel
theorem dX11_heart_20 : decode cX11_heart 20 = .ok (.aload_n 0, 1) := by decide +kernel
theorem dX11_heart_21 : decode cX11_heart 21 = .ok (.getfield 30, 3) := by decide +kernel
theorem dX11_heart_24 : decode cX11_heart 24 = .ok (.iconst 0, 1) := by decide +kernel
theorem dX11_heart_25 : decode cX11_heart 25 = .ok (.iload_n 1, 1) := by decide +kernel
theorem dX11_heart_26 : decode cX11_heart 26 = .ok (.invokevirtual 169, 3) := by decide +kernel
theorem dX11_heart_29 : decode cX11_heart 29 = .ok (.istore_n 2, 1) := by decide +kernel
theorem dX11_heart_30 : decode cX11_heart 30 = .ok (.iconst 1, 1) := by decide +kernel
theorem dX11_heart_31 : decode cX11_heart 31 = .ok (.istore_n 3, 1) := by decide +kernel
theorem dX11_heart_32 : decode cX11_heart 32 = .ok (.iload_n 3, 1) := by decide +kernel
theorem dX11_heart_33 : decode cX11_heart 33 = .ok (.aload_n 0, 1) := by decide +kernel
theorem dX11_heart_34 : decode cX11_heart 34 = .ok (.getfield 23, 3) := by decide +kernel
theorem dX11_heart_37 : decode cX11_heart 37 = .ok (.getfield 112, 3) := by decide +kernel
theorem dX11_heart_40 : decode cX11_heart 40 = .ok (.if_icmp .ge 23, 3) := by decide +kernel
theorem dX11_heart_43 : decode cX11_heart 43 = .ok (.iload_n 2, 1) := by decide +kernel
theorem dX11_heart_44 : decode cX11_heart 44 = .ok (.aload_n 0, 1) := by decide +kernel
theorem dX11_heart_45 : decode cX11_heart 45 = .ok (.getfield 30, 3) := by decide +kernel
theorem dX11_heart_48 : decode cX11_heart 48 = .ok (.iload_n 3, 1) := by decide +kernel
theorem dX11_heart_49 : decode cX11_heart 49 = .ok (.iload_n 1, 1) := by decide +kernel
theorem dX11_heart_50 : decode cX11_heart 50 = .ok (.invokevirtual 169, 3) := by decide +kernel
theorem dX11_heart_53 : decode cX11_heart 53 = .ok (.invokestatic 304, 3) := by decide +kernel
theorem dX11_heart_56 : decode cX11_heart 56 = .ok (.istore_n 2, 1) := by decide +kernel
theorem dX11_heart_57 : decode cX11_heart 57 = .ok (.iinc 3 1, 3) := by decide +kernel
theorem dX11_heart_60 : decode cX11_heart 60 = .ok (.goto (-28), 3) := by decide +kernel
theorem dX11_heart_63 : decode cX11_heart 63 = .ok (.iload_n 2, 1) := by decide +kernel
theorem dX11_heart_64 : decode cX11_heart 64 = .ok (.ireturn, 1) := by decide +kernel
theorem dX11_ease_0 : decode cX11_ease 0 = .ok (.aload_n 0, 1) := by decide +kernel
theorem dX11_ease_1 : decode cX11_ease 1 = .ok (.iload_n 1, 1) := by decide +kernel
theorem dX11_ease_2 : decode cX11_ease 2 = .ok (.invokevirtual 125, 3) := by decide +kernel
theorem dX11_ease_5 : decode cX11_ease 5 = .ok (.ifCond .eq 14, 3) := by decide +kernel
theorem dX11_ease_8 : decode cX11_ease 8 = .ok (.iload_n 2, 1) := by decide +kernel
theorem dX11_ease_9 : decode cX11_ease 9 = .ok (.ifCond .lt 10, 3) := by decide +kernel
theorem dX11_ease_12 : decode cX11_ease 12 = .ok (.iload_n 2, 1) := by decide +kernel
theorem dX11_ease_13 : decode cX11_ease 13 = .ok (.sipush 9999, 3) := by decide +kernel
theorem dX11_ease_16 : decode cX11_ease 16 = .ok (.if_icmp .le 5, 3) := by decide +kernel
theorem dX11_ease_19 : decode cX11_ease 19 = .ok (.iconst (-1), 1) := by decide +kernel
theorem dX11_ease_20 : decode cX11_ease 20 = .ok (.ireturn, 1) := by decide +kernel
theorem dX11_ease_21 : decode cX11_ease 21 = .ok (.aload_n 0, 1) := by decide +kernel
theorem dX11_ease_22 : decode cX11_ease 22 = .ok (.getfield 64, 3) := by decide +kernel
theorem dX11_ease_25 : decode cX11_ease 25 = .ok (.aload_n 0, 1) := by decide +kernel
theorem dX11_ease_26 : decode cX11_ease 26 = .ok (.getfield 23, 3) := by decide +kernel
theorem dX11_ease_29 : decode cX11_ease 29 = .ok (.aload_n 0, 1) := by decide +kernel
theorem dX11_ease_30 : decode cX11_ease 30 = .ok (.getfield 30, 3) := by decide +kernel
theorem dX11_ease_33 : decode cX11_ease 33 = .ok (.iload_n 1, 1) := by decide +kernel
theorem dX11_ease_34 : decode cX11_ease 34 = .ok (.iload_n 2, 1) := by decide +kernel
theorem dX11_ease_35 : decode cX11_ease 35 = .ok (.invokevirtual 309, 3) := by decide +kernel
theorem dX11_ease_38 : decode cX11_ease 38 = .ok (.ireturn, 1) := by decide +kernel
theorem dX11_match_0 : decode cX11_match 0 = .ok (.iload_n 1, 1) := by decide +kernel
theorem dX11_match_1 : decode cX11_match 1 = .ok (.ifCond .lt 9, 3) := by decide +kernel
theorem dX11_match_4 : decode cX11_match 4 = .ok (.iload_n 1, 1) := by decide +kernel
theorem dX11_match_5 : decode cX11_match 5 = .ok (.bipush 7, 2) := by decide +kernel
theorem dX11_match_7 : decode cX11_match 7 = .ok (.if_icmp .le 5, 3) := by decide +kernel
theorem dX11_match_10 : decode cX11_match 10 = .ok (.iconst (-1), 1) := by decide +kernel
theorem dX11_match_11 : decode cX11_match 11 = .ok (.ireturn, 1) := by decide +kernel
theorem dX11_match_12 : decode cX11_match 12 = .ok (.iload_n 1, 1) := by decide +kernel
theorem dX11_match_13 : decode cX11_match 13 = .ok (.bipush 6, 2) := by decide +kernel
theorem dX11_match_15 : decode cX11_match 15 = .ok (.if_icmp .ne 21, 3) := by decide +kernel
theorem dX11_match_18 : decode cX11_match 18 = .ok (.aload_n 0, 1) := by decide +kernel
theorem dX11_match_19 : decode cX11_match 19 = .ok (.getfield 23, 3) := by decide +kernel
theorem dX11_match_22 : decode cX11_match 22 = .ok (.getfield 112, 3) := by decide +kernel
theorem dX11_match_25 : decode cX11_match 25 = .ok (.aload_n 0, 1) := by decide +kernel
theorem dX11_match_26 : decode cX11_match 26 = .ok (.getfield 23, 3) := by decide +kernel
theorem dX11_match_29 : decode cX11_match 29 = .ok (.getfield 122, 3) := by decide +kernel
theorem dX11_match_32 : decode cX11_match 32 = .ok (.invokestatic 304, 3) := by decide +kernel
theorem dX11_match_35 : decode cX11_match 35 = .ok (.ireturn, 1) := by decide +kernel
theorem dX11_match_36 : decode cX11_match 36 = .ok (.aload_n 0, 1) := by decide +kernel
theorem dX11_match_37 : decode cX11_match 37 = .ok (.getfield 64, 3) := by decide +kernel
theorem dX11_match_40 : decode cX11_match 40 = .ok (.aload_n 0, 1) := by decide +kernel
theorem dX11_match_41 : decode cX11_match 41 = .ok (.getfield 23, 3) := by decide +kernel
theorem dX11_match_44 : decode cX11_match 44 = .ok (.aload_n 0, 1) := by decide +kernel
theorem dX11_match_45 : decode cX11_match 45 = .ok (.getfield 30, 3) := by decide +kernel
theorem dX11_match_48 : decode cX11_match 48 = .ok (.invokevirtual 313, 3) := by decide +kernel
theorem dX11_match_51 : decode cX11_match 51 = .ok (.iload_n 1, 1) := by decide +kernel
theorem dX11_match_52 : decode cX11_match 52 = .ok (.bipush 7, 2) := by decide +kernel
theorem dX11_match_54 : decode cX11_match 54 = .ok (.if_icmp .ne 13, 3) := by decide +kernel
theorem dX11_match_57 : decode cX11_match 57 = .ok (.aload_n 0, 1) := by decide +kernel
theorem dX11_match_58 : decode cX11_match 58 = .ok (.getfield 64, 3) := by decide +kernel
theorem dX11_match_61 : decode cX11_match 61 = .ok (.getfield 317, 3) := by decide +kernel
theorem dX11_match_64 : decode cX11_match 64 = .ok (.goto 12, 3) := by decide +kernel
theorem dX11_match_67 : decode cX11_match 67 = .ok (.aload_n 0, 1) := by decide +kernel
theorem dX11_match_68 : decode cX11_match 68 = .ok (.getfield 64, 3) := by decide +kernel
theorem dX11_match_71 : decode cX11_match 71 = .ok (.getfield 320, 3) := by decide +kernel
theorem dX11_match_74 : decode cX11_match 74 = .ok (.iload_n 1, 1) := by decide +kernel
theorem dX11_match_75 : decode cX11_match 75 = .ok (.iaload, 1) := by decide +kernel
theorem dX11_match_76 : decode cX11_match 76 = .ok (.ireturn, 1) := by decide +kernel
theorem dX11_join_0 : decode cX11_join 0 = .ok (.aload_n 0, 1) := by decide +kernel
theorem dX11_join_1 : decode cX11_join 1 = .ok (.getfield 64, 3) := by decide +kernel
theorem dX11_join_4 : decode cX11_join 4 = .ok (.aload_n 0, 1) := by decide +kernel
theorem dX11_join_5 : decode cX11_join 5 = .ok (.getfield 23, 3) := by decide +kernel
theorem dX11_join_8 : decode cX11_join 8 = .ok (.aload_n 0, 1) := by decide +kernel
theorem dX11_join_9 : decode cX11_join 9 = .ok (.getfield 30, 3) := by decide +kernel
theorem dX11_join_12 : decode cX11_join 12 = .ok (.invokevirtual 323, 3) := by decide +kernel
theorem dX11_join_15 : decode cX11_join 15 = .ok (.ireturn, 1) := by decide +kernel
theorem dX11_game_0 : decode cX11_game 0 = .ok (.iload_n 1, 1) := by decide +kernel
theorem dX11_game_1 : decode cX11_game 1 = .ok (.ifCond .lt 8, 3) := by decide +kernel
theorem dX11_game_4 : decode cX11_game 4 = .ok (.iload_n 1, 1) := by decide +kernel
theorem dX11_game_5 : decode cX11_game 5 = .ok (.iconst 2, 1) := by decide +kernel
theorem dX11_game_6 : decode cX11_game 6 = .ok (.if_icmp .le 5, 3) := by decide +kernel
theorem dX11_game_9 : decode cX11_game 9 = .ok (.iconst (-1), 1) := by decide +kernel
theorem dX11_game_10 : decode cX11_game 10 = .ok (.ireturn, 1) := by decide +kernel
theorem dX11_game_11 : decode cX11_game 11 = .ok (.aload_n 0, 1) := by decide +kernel
theorem dX11_game_12 : decode cX11_game 12 = .ok (.getfield 64, 3) := by decide +kernel
theorem dX11_game_15 : decode cX11_game 15 = .ok (.aload_n 0, 1) := by decide +kernel
theorem dX11_game_16 : decode cX11_game 16 = .ok (.getfield 23, 3) := by decide +kernel
theorem dX11_game_19 : decode cX11_game 19 = .ok (.aload_n 0, 1) := by decide +kernel
theorem dX11_game_20 : decode cX11_game 20 = .ok (.getfield 30, 3) := by decide +kernel
theorem dX11_game_23 : decode cX11_game 23 = .ok (.invokevirtual 327, 3) := by decide +kernel
theorem dX11_game_26 : decode cX11_game 26 = .ok (.istore_n 2, 1) := by decide +kernel
theorem dX11_game_27 : decode cX11_game 27 = .ok (.iload_n 1, 1) := by decide +kernel
theorem dX11_game_28 : decode cX11_game 28 = .ok (.ifCond .ne 14, 3) := by decide +kernel
theorem dX11_game_31 : decode cX11_game 31 = .ok (.iload_n 2, 1) := by decide +kernel
theorem dX11_game_32 : decode cX11_game 32 = .ok (.iconst (-1), 1) := by decide +kernel
theorem dX11_game_33 : decode cX11_game 33 = .ok (.if_icmp .ne 7, 3) := by decide +kernel
theorem dX11_game_36 : decode cX11_game 36 = .ok (.iconst 1, 1) := by decide +kernel
theorem dX11_game_37 : decode cX11_game 37 = .ok (.goto 4, 3) := by decide +kernel
theorem dX11_game_40 : decode cX11_game 40 = .ok (.iconst 0, 1) := by decide +kernel
theorem dX11_game_41 : decode cX11_game 41 = .ok (.ireturn, 1) := by decide +kernel
theorem dX11_game_42 : decode cX11_game 42 = .ok (.iload_n 2, 1) := by decide +kernel
theorem dX11_game_43 : decode cX11_game 43 = .ok (.iconst (-1), 1) := by decide +kernel
theorem dX11_game_44 : decode cX11_game 44 = .ok (.if_icmp .ne 6, 3) := by decide +kernel
theorem dX11_game_47 : decode cX11_game 47 = .ok (.bipush (-2), 2) := by decide +kernel
theorem dX11_game_49 : decode cX11_game 49 = .ok (.ireturn, 1) := by decide +kernel
theorem dX11_game_50 : decode cX11_game 50 = .ok (.iload_n 1, 1) := by decide +kernel
theorem dX11_game_51 : decode cX11_game 51 = .ok (.iconst 1, 1) := by decide +kernel
theorem dX11_game_52 : decode cX11_game 52 = .ok (.if_icmp .ne 9, 3) := by decide +kernel
theorem dX11_game_55 : decode cX11_game 55 = .ok (.iload_n 2, 1) := by decide +kernel
theorem dX11_game_56 : decode cX11_game 56 = .ok (.iconst 4, 1) := by decide +kernel
theorem dX11_game_57 : decode cX11_game 57 = .ok (.idiv, 1) := by decide +kernel
theorem dX11_game_58 : decode cX11_game 58 = .ok (.goto 6, 3) := by decide +kernel
theorem dX11_game_61 : decode cX11_game 61 = .ok (.iload_n 2, 1) := by decide +kernel
theorem dX11_game_62 : decode cX11_game 62 = .ok (.iconst 4, 1) := by decide +kernel
theorem dX11_game_63 : decode cX11_game 63 = .ok (.irem, 1) := by decide +kernel
theorem dX11_game_64 : decode cX11_game 64 = .ok (.ireturn, 1) := by decide +kernel
theorem dX11_rests_0 : decode cX11_rests 0 = .ok (.aload_n 0, 1) := by decide +kernel
theorem dX11_rests_1 : decode cX11_rests 1 = .ok (.iload_n 1, 1) := by decide +kernel
theorem dX11_rests_2 : decode cX11_rests 2 = .ok (.iload_n 2, 1) := by decide +kernel
theorem dX11_rests_3 : decode cX11_rests 3 = .ok (.invokevirtual 210, 3) := by decide +kernel
theorem dX11_rests_6 : decode cX11_rests 6 = .ok (.ifCond .ne 5, 3) := by decide +kernel
theorem dX11_rests_9 : decode cX11_rests 9 = .ok (.iconst (-1), 1) := by decide +kernel
theorem dX11_rests_10 : decode cX11_rests 10 = .ok (.ireturn, 1) := by decide +kernel
theorem dX11_rests_11 : decode cX11_rests 11 = .ok (.iconst 0, 1) := by decide +kernel
theorem dX11_rests_12 : decode cX11_rests 12 = .ok (.istore_n 3, 1) := by decide +kernel
theorem dX11_rests_13 : decode cX11_rests 13 = .ok (.iconst 0, 1) := by decide +kernel
theorem dX11_rests_14 : decode cX11_rests 14 = .ok (.istore 4, 2) := by decide +kernel
theorem dX11_rests_16 : decode cX11_rests 16 = .ok (.iload 4, 2) := by decide +kernel
theorem dX11_rests_18 : decode cX11_rests 18 = .ok (.iconst 4, 1) := by decide +kernel
theorem dX11_rests_19 : decode cX11_rests 19 = .ok (.if_icmp .ge 36, 3) := by decide +kernel
theorem dX11_rests_22 : decode cX11_rests 22 = .ok (.aload_n 0, 1) := by decide +kernel
theorem dX11_rests_23 : decode cX11_rests 23 = .ok (.getfield 64, 3) := by decide +kernel
theorem dX11_rests_26 : decode cX11_rests 26 = .ok (.aload_n 0, 1) := by decide +kernel
theorem dX11_rests_27 : decode cX11_rests 27 = .ok (.getfield 30, 3) := by decide +kernel
theorem dX11_rests_30 : decode cX11_rests 30 = .ok (.iload_n 1, 1) := by decide +kernel
theorem dX11_rests_31 : decode cX11_rests 31 = .ok (.iload_n 2, 1) := by decide +kernel
theorem dX11_rests_32 : decode cX11_rests 32 = .ok (.iload 4, 2) := by decide +kernel
theorem dX11_rests_34 : decode cX11_rests 34 = .ok (.iconst 2, 1) := by decide +kernel
theorem dX11_rests_35 : decode cX11_rests 35 = .ok (.idiv, 1) := by decide +kernel
theorem dX11_rests_36 : decode cX11_rests 36 = .ok (.iload 4, 2) := by decide +kernel
theorem dX11_rests_38 : decode cX11_rests 38 = .ok (.iconst 2, 1) := by decide +kernel
theorem dX11_rests_39 : decode cX11_rests 39 = .ok (.irem, 1) := by decide +kernel
theorem dX11_rests_40 : decode cX11_rests 40 = .ok (.invokevirtual 330, 3) := by decide +kernel
theorem dX11_rests_43 : decode cX11_rests 43 = .ok (.ifCond .eq 6, 3) := by decide +kernel
theorem dX11_rests_46 : decode cX11_rests 46 = .ok (.iinc 3 1, 3) := by decide +kernel
theorem dX11_rests_49 : decode cX11_rests 49 = .ok (.iinc 4 1, 3) := by decide +kernel
theorem dX11_rests_52 : decode cX11_rests 52 = .ok (.goto (-36), 3) := by decide +kernel
theorem dX11_rests_55 : decode cX11_rests 55 = .ok (.iload_n 3, 1) := by decide +kernel
theorem dX11_rests_56 : decode cX11_rests 56 = .ok (.ireturn, 1) := by decide +kernel
theorem dX11_rest_0 : decode cX11_rest 0 = .ok (.aload_n 0, 1) := by decide +kernel
theorem dX11_rest_1 : decode cX11_rest 1 = .ok (.iload_n 1, 1) := by decide +kernel
theorem dX11_rest_2 : decode cX11_rest 2 = .ok (.iload_n 2, 1) := by decide +kernel
theorem dX11_rest_3 : decode cX11_rest 3 = .ok (.invokevirtual 210, 3) := by decide +kernel
theorem dX11_rest_6 : decode cX11_rest 6 = .ok (.ifCond .eq 7, 3) := by decide +kernel
theorem dX11_rest_9 : decode cX11_rest 9 = .ok (.iload_n 3, 1) := by decide +kernel
theorem dX11_rest_10 : decode cX11_rest 10 = .ok (.ifCond .ge 5, 3) := by decide +kernel
theorem dX11_rest_13 : decode cX11_rest 13 = .ok (.iconst (-1), 1) := by decide +kernel
theorem dX11_rest_14 : decode cX11_rest 14 = .ok (.ireturn, 1) := by decide +kernel
theorem dX11_rest_15 : decode cX11_rest 15 = .ok (.iconst 0, 1) := by decide +kernel
theorem dX11_rest_16 : decode cX11_rest 16 = .ok (.istore 4, 2) := by decide +kernel
theorem dX11_rest_18 : decode cX11_rest 18 = .ok (.iconst 0, 1) := by decide +kernel
theorem dX11_rest_19 : decode cX11_rest 19 = .ok (.istore 5, 2) := by decide +kernel
theorem dX11_rest_21 : decode cX11_rest 21 = .ok (.iload 5, 2) := by decide +kernel
theorem dX11_rest_23 : decode cX11_rest 23 = .ok (.iconst 4, 1) := by decide +kernel
theorem dX11_rest_24 : decode cX11_rest 24 = .ok (.if_icmp .ge 55, 3) := by decide +kernel
theorem dX11_rest_27 : decode cX11_rest 27 = .ok (.aload_n 0, 1) := by decide +kernel
theorem dX11_rest_28 : decode cX11_rest 28 = .ok (.getfield 64, 3) := by decide +kernel
theorem dX11_rest_31 : decode cX11_rest 31 = .ok (.aload_n 0, 1) := by decide +kernel
theorem dX11_rest_32 : decode cX11_rest 32 = .ok (.getfield 30, 3) := by decide +kernel
theorem dX11_rest_35 : decode cX11_rest 35 = .ok (.iload_n 1, 1) := by decide +kernel
theorem dX11_rest_36 : decode cX11_rest 36 = .ok (.iload_n 2, 1) := by decide +kernel
theorem dX11_rest_37 : decode cX11_rest 37 = .ok (.iload 5, 2) := by decide +kernel
theorem dX11_rest_39 : decode cX11_rest 39 = .ok (.iconst 2, 1) := by decide +kernel
theorem dX11_rest_40 : decode cX11_rest 40 = .ok (.idiv, 1) := by decide +kernel
theorem dX11_rest_41 : decode cX11_rest 41 = .ok (.iload 5, 2) := by decide +kernel
theorem dX11_rest_43 : decode cX11_rest 43 = .ok (.iconst 2, 1) := by decide +kernel
theorem dX11_rest_44 : decode cX11_rest 44 = .ok (.irem, 1) := by decide +kernel
theorem dX11_rest_45 : decode cX11_rest 45 = .ok (.invokevirtual 330, 3) := by decide +kernel
theorem dX11_rest_48 : decode cX11_rest 48 = .ok (.ifCond .eq 25, 3) := by decide +kernel
theorem dX11_rest_51 : decode cX11_rest 51 = .ok (.iload 4, 2) := by decide +kernel
theorem dX11_rest_53 : decode cX11_rest 53 = .ok (.iload_n 3, 1) := by decide +kernel
theorem dX11_rest_54 : decode cX11_rest 54 = .ok (.if_icmp .ne 16, 3) := by decide +kernel
theorem dX11_rest_57 : decode cX11_rest 57 = .ok (.bipush 10, 2) := by decide +kernel
theorem dX11_rest_59 : decode cX11_rest 59 = .ok (.iload 5, 2) := by decide +kernel
theorem dX11_rest_61 : decode cX11_rest 61 = .ok (.iconst 2, 1) := by decide +kernel
theorem dX11_rest_62 : decode cX11_rest 62 = .ok (.idiv, 1) := by decide +kernel
theorem dX11_rest_63 : decode cX11_rest 63 = .ok (.imul, 1) := by decide +kernel
theorem dX11_rest_64 : decode cX11_rest 64 = .ok (.iload 5, 2) := by decide +kernel
theorem dX11_rest_66 : decode cX11_rest 66 = .ok (.iconst 2, 1) := by decide +kernel
theorem dX11_rest_67 : decode cX11_rest 67 = .ok (.irem, 1) := by decide +kernel
theorem dX11_rest_68 : decode cX11_rest 68 = .ok (.iadd, 1) := by decide +kernel
theorem dX11_rest_69 : decode cX11_rest 69 = .ok (.ireturn, 1) := by decide +kernel
theorem dX11_rest_70 : decode cX11_rest 70 = .ok (.iinc 4 1, 3) := by decide +kernel
theorem dX11_rest_73 : decode cX11_rest 73 = .ok (.iinc 5 1, 3) := by decide +kernel
theorem dX11_rest_76 : decode cX11_rest 76 = .ok (.goto (-55), 3) := by decide +kernel
theorem dX11_rest_79 : decode cX11_rest 79 = .ok (.bipush (-2), 2) := by decide +kernel
theorem dX11_rest_81 : decode cX11_rest 81 = .ok (.ireturn, 1) := by decide +kernel
theorem dX11_see_0 : decode cX11_see 0 = .ok (.iload_n 1, 1) := by decide +kernel
theorem dX11_see_1 : decode cX11_see 1 = .ok (.iconst 1, 1) := by decide +kernel
theorem dX11_see_2 : decode cX11_see 2 = .ok (.if_icmp .lt 27, 3) := by decide +kernel
theorem dX11_see_5 : decode cX11_see 5 = .ok (.iload_n 1, 1) := by decide +kernel
theorem dX11_see_6 : decode cX11_see 6 = .ok (.bipush 60, 2) := by decide +kernel
theorem dX11_see_8 : decode cX11_see 8 = .ok (.if_icmp .gt 21, 3) := by decide +kernel
theorem dX11_see_11 : decode cX11_see 11 = .ok (.aload_n 0, 1) := by decide +kernel
theorem dX11_see_12 : decode cX11_see 12 = .ok (.iload_n 2, 1) := by decide +kernel
theorem dX11_see_13 : decode cX11_see 13 = .ok (.invokevirtual 125, 3) := by decide +kernel
theorem dX11_see_16 : decode cX11_see 16 = .ok (.ifCond .eq 13, 3) := by decide +kernel
theorem dX11_see_19 : decode cX11_see 19 = .ok (.iload_n 3, 1) := by decide +kernel
theorem dX11_see_20 : decode cX11_see 20 = .ok (.ifCond .lt 9, 3) := by decide +kernel
theorem dX11_see_23 : decode cX11_see 23 = .ok (.iload_n 3, 1) := by decide +kernel
theorem dX11_see_24 : decode cX11_see 24 = .ok (.bipush 99, 2) := by decide +kernel
theorem dX11_see_26 : decode cX11_see 26 = .ok (.if_icmp .le 5, 3) := by decide +kernel
theorem dX11_see_29 : decode cX11_see 29 = .ok (.iconst (-1), 1) := by decide +kernel
theorem dX11_see_30 : decode cX11_see 30 = .ok (.ireturn, 1) := by decide +kernel
theorem dX11_see_31 : decode cX11_see 31 = .ok (.aload_n 0, 1) := by decide +kernel
theorem dX11_see_32 : decode cX11_see 32 = .ok (.getfield 50, 3) := by decide +kernel
theorem dX11_see_35 : decode cX11_see 35 = .ok (.iload_n 1, 1) := by decide +kernel
theorem dX11_see_36 : decode cX11_see 36 = .ok (.iload_n 2, 1) := by decide +kernel
theorem dX11_see_37 : decode cX11_see 37 = .ok (.iload_n 3, 1) := by decide +kernel
theorem dX11_see_38 : decode cX11_see 38 = .ok (.iload 4, 2) := by decide +kernel
theorem dX11_see_40 : decode cX11_see 40 = .ok (.invokevirtual 334, 3) := by decide +kernel
theorem dX11_see_43 : decode cX11_see 43 = .ok (.ireturn, 1) := by decide +kernel
theorem dX11_strike_0 : decode cX11_strike 0 = .ok (.iload_n 1, 1) := by decide +kernel
theorem dX11_strike_1 : decode cX11_strike 1 = .ok (.ifCond .lt 14, 3) := by decide +kernel
theorem dX11_strike_4 : decode cX11_strike 4 = .ok (.iload_n 1, 1) := by decide +kernel
theorem dX11_strike_5 : decode cX11_strike 5 = .ok (.aload_n 0, 1) := by decide +kernel
theorem dX11_strike_6 : decode cX11_strike 6 = .ok (.getfield 50, 3) := by decide +kernel
theorem dX11_strike_9 : decode cX11_strike 9 = .ok (.getfield 240, 3) := by decide +kernel
theorem dX11_strike_12 : decode cX11_strike 12 = .ok (.if_icmp .lt 5, 3) := by decide +kernel
theorem dX11_strike_15 : decode cX11_strike 15 = .ok (.iconst (-1), 1) := by decide +kernel
theorem dX11_strike_16 : decode cX11_strike 16 = .ok (.ireturn, 1) := by decide +kernel
theorem dX11_strike_17 : decode cX11_strike 17 = .ok (.aload_n 0, 1) := by decide +kernel
theorem dX11_strike_18 : decode cX11_strike 18 = .ok (.getfield 50, 3) := by decide +kernel
theorem dX11_strike_21 : decode cX11_strike 21 = .ok (.iload_n 1, 1) := by decide +kernel
theorem dX11_strike_22 : decode cX11_strike 22 = .ok (.invokevirtual 338, 3) := by decide +kernel
theorem dX11_strike_25 : decode cX11_strike 25 = .ok (.ireturn, 1) := by decide +kernel
theorem dX11_known_0 : decode cX11_known 0 = .ok (.iload_n 1, 1) := by decide +kernel
theorem dX11_known_1 : decode cX11_known 1 = .ok (.iconst (-1), 1) := by decide +kernel
theorem dX11_known_2 : decode cX11_known 2 = .ok (.if_icmp .lt 14, 3) := by decide +kernel
theorem dX11_known_5 : decode cX11_known 5 = .ok (.iload_n 1, 1) := by decide +kernel
theorem dX11_known_6 : decode cX11_known 6 = .ok (.aload_n 0, 1) := by decide +kernel
theorem dX11_known_7 : decode cX11_known 7 = .ok (.getfield 50, 3) := by decide +kernel
theorem dX11_known_10 : decode cX11_known 10 = .ok (.getfield 240, 3) := by decide +kernel
theorem dX11_known_13 : decode cX11_known 13 = .ok (.if_icmp .le 5, 3) := by decide +kernel
theorem dX11_known_16 : decode cX11_known 16 = .ok (.iconst 0, 1) := by decide +kernel
theorem dX11_known_17 : decode cX11_known 17 = .ok (.ireturn, 1) := by decide +kernel
theorem dX11_known_18 : decode cX11_known 18 = .ok (.aload_n 0, 1) := by decide +kernel
theorem dX11_known_19 : decode cX11_known 19 = .ok (.getfield 50, 3) := by decide +kernel
theorem dX11_known_22 : decode cX11_known 22 = .ok (.iload_n 1, 1) := by decide +kernel
theorem dX11_known_23 : decode cX11_known 23 = .ok (.putfield 341, 3) := by decide +kernel
theorem dX11_known_26 : decode cX11_known 26 = .ok (.iconst 1, 1) := by decide +kernel
theorem dX11_known_27 : decode cX11_known 27 = .ok (.ireturn, 1) := by decide +kernel
theorem dX11_bumps_0 : decode cX11_bumps 0 = .ok (.aload_n 0, 1) := by decide +kernel
theorem dX11_bumps_1 : decode cX11_bumps 1 = .ok (.iload_n 1, 1) := by decide +kernel
theorem dX11_bumps_2 : decode cX11_bumps 2 = .ok (.invokevirtual 125, 3) := by decide +kernel
theorem dX11_bumps_5 : decode cX11_bumps 5 = .ok (.ifCond .eq 11, 3) := by decide +kernel
theorem dX11_bumps_8 : decode cX11_bumps 8 = .ok (.aload_n 0, 1) := by decide +kernel
theorem dX11_bumps_9 : decode cX11_bumps 9 = .ok (.iload_n 1, 1) := by decide +kernel
theorem dX11_bumps_10 : decode cX11_bumps 10 = .ok (.invokevirtual 344, 3) := by decide +kernel
theorem dX11_bumps_13 : decode cX11_bumps 13 = .ok (.goto 4, 3) := by decide +kernel
theorem dX11_bumps_16 : decode cX11_bumps 16 = .ok (.iconst (-1), 1) := by decide +kernel
theorem dX11_bumps_17 : decode cX11_bumps 17 = .ok (.ireturn, 1) := by decide +kernel
theorem dX11_possibleBumps_0 : decode cX11_possibleBumps 0 = .ok (.aload_n 0, 1) := by decide +kernel
theorem dX11_possibleBumps_1 : decode cX11_possibleBumps 1 = .ok (.getfield 50, 3) := by decide +kernel
theorem dX11_possibleBumps_4 : decode cX11_possibleBumps 4 = .ok (.invokevirtual 347, 3) := by decide +kernel
theorem dX11_possibleBumps_7 : decode cX11_possibleBumps 7 = .ok (.iconst 0, 1) := by decide +kernel
theorem dX11_possibleBumps_8 : decode cX11_possibleBumps 8 = .ok (.istore_n 2, 1) := by decide +kernel
theorem dX11_possibleBumps_9 : decode cX11_possibleBumps 9 = .ok (.iconst 0, 1) := by decide +kernel
theorem dX11_possibleBumps_10 : decode cX11_possibleBumps 10 = .ok (.istore_n 3, 1) := by decide +kernel
theorem dX11_possibleBumps_11 : decode cX11_possibleBumps 11 = .ok (.iload_n 3, 1) := by decide +kernel
theorem dX11_possibleBumps_12 : decode cX11_possibleBumps 12 = .ok (.bipush 20, 2) := by decide +kernel
theorem dX11_possibleBumps_14 : decode cX11_possibleBumps 14 = .ok (.if_icmp .gt 24, 3) := by decide +kernel
theorem dX11_possibleBumps_17 : decode cX11_possibleBumps 17 = .ok (.aload_n 0, 1) := by decide +kernel
theorem dX11_possibleBumps_18 : decode cX11_possibleBumps 18 = .ok (.iload_n 1, 1) := by decide +kernel
theorem dX11_possibleBumps_19 : decode cX11_possibleBumps 19 = .ok (.iload_n 3, 1) := by decide +kernel
theorem dX11_possibleBumps_20 : decode cX11_possibleBumps 20 = .ok (.invokevirtual 350, 3) := by decide +kernel
theorem dX11_possibleBumps_23 : decode cX11_possibleBumps 23 = .ok (.ifCond .eq 9, 3) := by decide +kernel
theorem dX11_possibleBumps_26 : decode cX11_possibleBumps 26 = .ok (.iload_n 2, 1) := by decide +kernel
theorem dX11_possibleBumps_27 : decode cX11_possibleBumps 27 = .ok (.iconst 1, 1) := by decide +kernel
theorem dX11_possibleBumps_28 : decode cX11_possibleBumps 28 = .ok (.iload_n 3, 1) := by decide +kernel
theorem dX11_possibleBumps_29 : decode cX11_possibleBumps 29 = .ok (.ishl, 1) := by decide +kernel
theorem dX11_possibleBumps_30 : decode cX11_possibleBumps 30 = .ok (.ior, 1) := by decide +kernel
theorem dX11_possibleBumps_31 : decode cX11_possibleBumps 31 = .ok (.istore_n 2, 1) := by decide +kernel
theorem dX11_possibleBumps_32 : decode cX11_possibleBumps 32 = .ok (.iinc 3 1, 3) := by decide +kernel
theorem dX11_possibleBumps_35 : decode cX11_possibleBumps 35 = .ok (.goto (-24), 3) := by decide +kernel
theorem dX11_possibleBumps_38 : decode cX11_possibleBumps 38 = .ok (.iload_n 2, 1) := by decide +kernel
theorem dX11_possibleBumps_39 : decode cX11_possibleBumps 39 = .ok (.ireturn, 1) := by decide +kernel
theorem dX11_fitsWhatIsKnown_0 : decode cX11_fitsWhatIsKnown 0 = .ok (.aload_n 0, 1) := by decide +kernel
