theorem dX5_meets_42 : decode cX5_meets 42 = .ok (.aload_n 0, 1) := by decide +kernel
theorem dX5_meets_43 : decode cX5_meets 43 = .ok (.getfield 66, 3) := by decide +kernel
theorem dX5_meets_46 : decode cX5_meets 46 = .ok (.aload_n 0, 1) := by decide +kernel
theorem dX5_meets_47 : decode cX5_meets 47 = .ok (.getfield 149, 3) := by decide +kernel
theorem dX5_meets_50 : decode cX5_meets 50 = .ok (.iload 4, 2) := by decide +kernel
theorem dX5_meets_52 : decode cX5_meets 52 = .ok (.iastore, 1) := by decide +kernel
theorem dX5_meets_53 : decode cX5_meets 53 = .ok (.aload_n 0, 1) := by decide +kernel
theorem dX5_meets_54 : decode cX5_meets 54 = .ok (.dup, 1) := by decide +kernel
theorem dX5_meets_55 : decode cX5_meets 55 = .ok (.getfield 149, 3) := by decide +kernel
theorem dX5_meets_58 : decode cX5_meets 58 = .ok (.iconst 1, 1) := by decide +kernel
theorem dX5_meets_59 : decode cX5_meets 59 = .ok (.iadd, 1) := by decide +kernel
theorem dX5_meets_60 : decode cX5_meets 60 = .ok (.putfield 149, 3) := by decide +kernel
theorem dX5_meets_63 : decode cX5_meets 63 = .ok (.iconst 1, 1) := by decide +kernel
theorem dX5_meets_64 : decode cX5_meets 64 = .ok (.ireturn, 1) := by decide +kernel
theorem dX5_tableOf_0 : decode cX5_tableOf 0 = .ok (.lload_n 0, 1) := by decide +kernel
theorem dX5_tableOf_1 : decode cX5_tableOf 1 = .ok (.bipush 8, 2) := by decide +kernel
theorem dX5_tableOf_3 : decode cX5_tableOf 3 = .ok (.iload_n 2, 1) := by decide +kernel
theorem dX5_tableOf_4 : decode cX5_tableOf 4 = .ok (.imul, 1) := by decide +kernel
theorem dX5_tableOf_5 : decode cX5_tableOf 5 = .ok (.lshr, 1) := by decide +kernel
theorem dX5_tableOf_6 : decode cX5_tableOf 6 = .ok (.l2i, 1) := by decide +kernel
theorem dX5_tableOf_7 : decode cX5_tableOf 7 = .ok (.sipush 255, 3) := by decide +kernel
theorem dX5_tableOf_10 : decode cX5_tableOf 10 = .ok (.iand, 1) := by decide +kernel
theorem dX5_tableOf_11 : decode cX5_tableOf 11 = .ok (.ireturn, 1) := by decide +kernel
theorem dX5_whereIs_0 : decode cX5_whereIs 0 = .ok (.iconst 0, 1) := by decide +kernel
theorem dX5_whereIs_1 : decode cX5_whereIs 1 = .ok (.istore 4, 2) := by decide +kernel
theorem dX5_whereIs_3 : decode cX5_whereIs 3 = .ok (.iload 4, 2) := by decide +kernel
theorem dX5_whereIs_5 : decode cX5_whereIs 5 = .ok (.iload_n 2, 1) := by decide +kernel
theorem dX5_whereIs_6 : decode cX5_whereIs 6 = .ok (.if_icmp .ge 22, 3) := by decide +kernel
theorem dX5_whereIs_9 : decode cX5_whereIs 9 = .ok (.lload_n 0, 1) := by decide +kernel
theorem dX5_whereIs_10 : decode cX5_whereIs 10 = .ok (.iload 4, 2) := by decide +kernel
theorem dX5_whereIs_12 : decode cX5_whereIs 12 = .ok (.invokestatic 156, 3) := by decide +kernel
theorem dX5_whereIs_15 : decode cX5_whereIs 15 = .ok (.iload_n 3, 1) := by decide +kernel
theorem dX5_whereIs_16 : decode cX5_whereIs 16 = .ok (.if_icmp .ne 6, 3) := by decide +kernel
theorem dX5_whereIs_19 : decode cX5_whereIs 19 = .ok (.iload 4, 2) := by decide +kernel
theorem dX5_whereIs_21 : decode cX5_whereIs 21 = .ok (.ireturn, 1) := by decide +kernel
theorem dX5_whereIs_22 : decode cX5_whereIs 22 = .ok (.iinc 4 1, 3) := by decide +kernel
theorem dX5_whereIs_25 : decode cX5_whereIs 25 = .ok (.goto (-22), 3) := by decide +kernel
theorem dX5_whereIs_28 : decode cX5_whereIs 28 = .ok (.iconst (-1), 1) := by decide +kernel
theorem dX5_whereIs_29 : decode cX5_whereIs 29 = .ok (.ireturn, 1) := by decide +kernel
theorem dX5_becomesFound_0 : decode cX5_becomesFound 0 = .ok (.aload_n 0, 1) := by decide +kernel
theorem dX5_becomesFound_1 : decode cX5_becomesFound 1 = .ok (.iload_n 2, 1) := by decide +kernel
theorem dX5_becomesFound_2 : decode cX5_becomesFound 2 = .ok (.putfield 75, 3) := by decide +kernel
theorem dX5_becomesFound_5 : decode cX5_becomesFound 5 = .ok (.aload_n 0, 1) := by decide +kernel
theorem dX5_becomesFound_6 : decode cX5_becomesFound 6 = .ok (.iconst 0, 1) := by decide +kernel
theorem dX5_becomesFound_7 : decode cX5_becomesFound 7 = .ok (.putfield 160, 3) := by decide +kernel
theorem dX5_becomesFound_10 : decode cX5_becomesFound 10 = .ok (.iload_n 1, 1) := by decide +kernel
theorem dX5_becomesFound_11 : decode cX5_becomesFound 11 = .ok (.istore_n 3, 1) := by decide +kernel
theorem dX5_becomesFound_12 : decode cX5_becomesFound 12 = .ok (.iload_n 3, 1) := by decide +kernel
theorem dX5_becomesFound_13 : decode cX5_becomesFound 13 = .ok (.ifCond .le 23, 3) := by decide +kernel
theorem dX5_becomesFound_16 : decode cX5_becomesFound 16 = .ok (.aload_n 0, 1) := by decide +kernel
theorem dX5_becomesFound_17 : decode cX5_becomesFound 17 = .ok (.dup, 1) := by decide +kernel
theorem dX5_becomesFound_18 : decode cX5_becomesFound 18 = .ok (.getfield 160, 3) := by decide +kernel
theorem dX5_becomesFound_21 : decode cX5_becomesFound 21 = .ok (.iconst 1, 1) := by decide +kernel
theorem dX5_becomesFound_22 : decode cX5_becomesFound 22 = .ok (.iadd, 1) := by decide +kernel
theorem dX5_becomesFound_23 : decode cX5_becomesFound 23 = .ok (.putfield 160, 3) := by decide +kernel
theorem dX5_becomesFound_26 : decode cX5_becomesFound 26 = .ok (.aload_n 0, 1) := by decide +kernel
theorem dX5_becomesFound_27 : decode cX5_becomesFound 27 = .ok (.getfield 63, 3) := by decide +kernel
theorem dX5_becomesFound_30 : decode cX5_becomesFound 30 = .ok (.iload_n 3, 1) := by decide +kernel
theorem dX5_becomesFound_31 : decode cX5_becomesFound 31 = .ok (.iaload, 1) := by decide +kernel
theorem dX5_becomesFound_32 : decode cX5_becomesFound 32 = .ok (.istore_n 3, 1) := by decide +kernel
theorem dX5_becomesFound_33 : decode cX5_becomesFound 33 = .ok (.goto (-21), 3) := by decide +kernel
theorem dX5_becomesFound_36 : decode cX5_becomesFound 36 = .ok (.aload_n 0, 1) := by decide +kernel
theorem dX5_becomesFound_37 : decode cX5_becomesFound 37 = .ok (.getfield 160, 3) := by decide +kernel
theorem dX5_becomesFound_40 : decode cX5_becomesFound 40 = .ok (.istore_n 3, 1) := by decide +kernel
theorem dX5_becomesFound_41 : decode cX5_becomesFound 41 = .ok (.iload_n 1, 1) := by decide +kernel
theorem dX5_becomesFound_42 : decode cX5_becomesFound 42 = .ok (.istore 4, 2) := by decide +kernel
theorem dX5_becomesFound_44 : decode cX5_becomesFound 44 = .ok (.iload 4, 2) := by decide +kernel
theorem dX5_becomesFound_46 : decode cX5_becomesFound 46 = .ok (.ifCond .le 31, 3) := by decide +kernel
theorem dX5_becomesFound_49 : decode cX5_becomesFound 49 = .ok (.iinc 3 (-1), 3) := by decide +kernel
theorem dX5_becomesFound_52 : decode cX5_becomesFound 52 = .ok (.aload_n 0, 1) := by decide +kernel
theorem dX5_becomesFound_53 : decode cX5_becomesFound 53 = .ok (.getfield 72, 3) := by decide +kernel
theorem dX5_becomesFound_56 : decode cX5_becomesFound 56 = .ok (.iload_n 3, 1) := by decide +kernel
theorem dX5_becomesFound_57 : decode cX5_becomesFound 57 = .ok (.aload_n 0, 1) := by decide +kernel
theorem dX5_becomesFound_58 : decode cX5_becomesFound 58 = .ok (.getfield 66, 3) := by decide +kernel
theorem dX5_becomesFound_61 : decode cX5_becomesFound 61 = .ok (.iload 4, 2) := by decide +kernel
theorem dX5_becomesFound_63 : decode cX5_becomesFound 63 = .ok (.iaload, 1) := by decide +kernel
theorem dX5_becomesFound_64 : decode cX5_becomesFound 64 = .ok (.iastore, 1) := by decide +kernel
theorem dX5_becomesFound_65 : decode cX5_becomesFound 65 = .ok (.aload_n 0, 1) := by decide +kernel
theorem dX5_becomesFound_66 : decode cX5_becomesFound 66 = .ok (.getfield 63, 3) := by decide +kernel
theorem dX5_becomesFound_69 : decode cX5_becomesFound 69 = .ok (.iload 4, 2) := by decide +kernel
theorem dX5_becomesFound_71 : decode cX5_becomesFound 71 = .ok (.iaload, 1) := by decide +kernel
theorem dX5_becomesFound_72 : decode cX5_becomesFound 72 = .ok (.istore 4, 2) := by decide +kernel
theorem dX5_becomesFound_74 : decode cX5_becomesFound 74 = .ok (.goto (-30), 3) := by decide +kernel
theorem dX5_becomesFound_77 : decode cX5_becomesFound 77 = .ok (.return_, 1) := by decide +kernel
theorem dX5_goesOn_0 : decode cX5_goesOn 0 = .ok (.iconst 0, 1) := by decide +kernel
theorem dX5_goesOn_1 : decode cX5_goesOn 1 = .ok (.istore 5, 2) := by decide +kernel
theorem dX5_goesOn_3 : decode cX5_goesOn 3 = .ok (.iload 5, 2) := by decide +kernel
theorem dX5_goesOn_5 : decode cX5_goesOn 5 = .ok (.iload_n 3, 1) := by decide +kernel
theorem dX5_goesOn_6 : decode cX5_goesOn 6 = .ok (.if_icmp .ge 142, 3) := by decide +kernel
theorem dX5_goesOn_9 : decode cX5_goesOn 9 = .ok (.iload 5, 2) := by decide +kernel
theorem dX5_goesOn_11 : decode cX5_goesOn 11 = .ok (.istore 6, 2) := by decide +kernel
theorem dX5_goesOn_13 : decode cX5_goesOn 13 = .ok (.iload 6, 2) := by decide +kernel
theorem dX5_goesOn_15 : decode cX5_goesOn 15 = .ok (.iload_n 3, 1) := by decide +kernel
theorem dX5_goesOn_16 : decode cX5_goesOn 16 = .ok (.if_icmp .ge 126, 3) := by decide +kernel
theorem dX5_goesOn_19 : decode cX5_goesOn 19 = .ok (.iload_n 2, 1) := by decide +kernel
theorem dX5_goesOn_20 : decode cX5_goesOn 20 = .ok (.istore 7, 2) := by decide +kernel
theorem dX5_goesOn_22 : decode cX5_goesOn 22 = .ok (.iload 7, 2) := by decide +kernel
theorem dX5_goesOn_24 : decode cX5_goesOn 24 = .ok (.iload_n 3, 1) := by decide +kernel
theorem dX5_goesOn_25 : decode cX5_goesOn 25 = .ok (.if_icmp .ge 111, 3) := by decide +kernel
theorem dX5_goesOn_28 : decode cX5_goesOn 28 = .ok (.iload 7, 2) := by decide +kernel
theorem dX5_goesOn_30 : decode cX5_goesOn 30 = .ok (.iload 5, 2) := by decide +kernel
theorem dX5_goesOn_32 : decode cX5_goesOn 32 = .ok (.if_icmp .eq 98, 3) := by decide +kernel
theorem dX5_goesOn_35 : decode cX5_goesOn 35 = .ok (.iload 7, 2) := by decide +kernel
theorem dX5_goesOn_37 : decode cX5_goesOn 37 = .ok (.iload 6, 2) := by decide +kernel
theorem dX5_goesOn_39 : decode cX5_goesOn 39 = .ok (.if_icmp .eq 91, 3) := by decide +kernel
theorem dX5_goesOn_42 : decode cX5_goesOn 42 = .ok (.iload 4, 2) := by decide +kernel
theorem dX5_goesOn_44 : decode cX5_goesOn 44 = .ok (.aload_n 0, 1) := by decide +kernel
theorem dX5_goesOn_45 : decode cX5_goesOn 45 = .ok (.getfield 59, 3) := by decide +kernel
theorem dX5_goesOn_48 : decode cX5_goesOn 48 = .ok (.iload_n 1, 1) := by decide +kernel
theorem dX5_goesOn_49 : decode cX5_goesOn 49 = .ok (.laload, 1) := by decide +kernel
theorem dX5_goesOn_50 : decode cX5_goesOn 50 = .ok (.iload 5, 2) := by decide +kernel
theorem dX5_goesOn_52 : decode cX5_goesOn 52 = .ok (.invokestatic 156, 3) := by decide +kernel
theorem dX5_goesOn_55 : decode cX5_goesOn 55 = .ok (.aload_n 0, 1) := by decide +kernel
theorem dX5_goesOn_56 : decode cX5_goesOn 56 = .ok (.getfield 59, 3) := by decide +kernel
theorem dX5_goesOn_59 : decode cX5_goesOn 59 = .ok (.iload_n 1, 1) := by decide +kernel
theorem dX5_goesOn_60 : decode cX5_goesOn 60 = .ok (.laload, 1) := by decide +kernel
theorem dX5_goesOn_61 : decode cX5_goesOn 61 = .ok (.iload 6, 2) := by decide +kernel
theorem dX5_goesOn_63 : decode cX5_goesOn 63 = .ok (.invokestatic 156, 3) := by decide +kernel
theorem dX5_goesOn_66 : decode cX5_goesOn 66 = .ok (.ior, 1) := by decide +kernel
theorem dX5_goesOn_67 : decode cX5_goesOn 67 = .ok (.iconst (-1), 1) := by decide +kernel
theorem dX5_goesOn_68 : decode cX5_goesOn 68 = .ok (.ixor, 1) := by decide +kernel
theorem dX5_goesOn_69 : decode cX5_goesOn 69 = .ok (.iand, 1) := by decide +kernel
theorem dX5_goesOn_70 : decode cX5_goesOn 70 = .ok (.i2l, 1) := by decide +kernel
theorem dX5_goesOn_71 : decode cX5_goesOn 71 = .ok (.lstore 8, 2) := by decide +kernel
theorem dX5_goesOn_73 : decode cX5_goesOn 73 = .ok (.aload_n 0, 1) := by decide +kernel
theorem dX5_goesOn_74 : decode cX5_goesOn 74 = .ok (.getfield 59, 3) := by decide +kernel
theorem dX5_goesOn_77 : decode cX5_goesOn 77 = .ok (.iload_n 1, 1) := by decide +kernel
theorem dX5_goesOn_78 : decode cX5_goesOn 78 = .ok (.laload, 1) := by decide +kernel
theorem dX5_goesOn_79 : decode cX5_goesOn 79 = .ok (.ldc2_w 163, 3) := by decide +kernel
theorem dX5_goesOn_82 : decode cX5_goesOn 82 = .ok (.bipush 8, 2) := by decide +kernel
theorem dX5_goesOn_84 : decode cX5_goesOn 84 = .ok (.iload 7, 2) := by decide +kernel
theorem dX5_goesOn_86 : decode cX5_goesOn 86 = .ok (.imul, 1) := by decide +kernel
theorem dX5_goesOn_87 : decode cX5_goesOn 87 = .ok (.lshl, 1) := by decide +kernel
theorem dX5_goesOn_88 : decode cX5_goesOn 88 = .ok (.ldc2_w 165, 3) := by decide +kernel
theorem dX5_goesOn_91 : decode cX5_goesOn 91 = .ok (.lxor, 1) := by decide +kernel
theorem dX5_goesOn_92 : decode cX5_goesOn 92 = .ok (.land, 1) := by decide +kernel
theorem dX5_goesOn_93 : decode cX5_goesOn 93 = .ok (.lload 8, 2) := by decide +kernel
theorem dX5_goesOn_95 : decode cX5_goesOn 95 = .ok (.bipush 8, 2) := by decide +kernel
theorem dX5_goesOn_97 : decode cX5_goesOn 97 = .ok (.iload 7, 2) := by decide +kernel
theorem dX5_goesOn_99 : decode cX5_goesOn 99 = .ok (.imul, 1) := by decide +kernel
theorem dX5_goesOn_100 : decode cX5_goesOn 100 = .ok (.lshl, 1) := by decide +kernel
theorem dX5_goesOn_101 : decode cX5_goesOn 101 = .ok (.lor, 1) := by decide +kernel
theorem dX5_goesOn_102 : decode cX5_goesOn 102 = .ok (.lstore 10, 2) := by decide +kernel
theorem dX5_goesOn_104 : decode cX5_goesOn 104 = .ok (.aload_n 0, 1) := by decide +kernel
theorem dX5_goesOn_105 : decode cX5_goesOn 105 = .ok (.lload 10, 2) := by decide +kernel
theorem dX5_goesOn_107 : decode cX5_goesOn 107 = .ok (.iload_n 1, 1) := by decide +kernel
theorem dX5_goesOn_108 : decode cX5_goesOn 108 = .ok (.bipush 64, 2) := by decide +kernel
theorem dX5_goesOn_110 : decode cX5_goesOn 110 = .ok (.iload 5, 2) := by decide +kernel
theorem dX5_goesOn_112 : decode cX5_goesOn 112 = .ok (.imul, 1) := by decide +kernel
theorem dX5_goesOn_113 : decode cX5_goesOn 113 = .ok (.bipush 8, 2) := by decide +kernel
theorem dX5_goesOn_115 : decode cX5_goesOn 115 = .ok (.iload 6, 2) := by decide +kernel
theorem dX5_goesOn_117 : decode cX5_goesOn 117 = .ok (.imul, 1) := by decide +kernel
theorem dX5_goesOn_118 : decode cX5_goesOn 118 = .ok (.iadd, 1) := by decide +kernel
theorem dX5_goesOn_119 : decode cX5_goesOn 119 = .ok (.iload 7, 2) := by decide +kernel
theorem dX5_goesOn_121 : decode cX5_goesOn 121 = .ok (.iadd, 1) := by decide +kernel
theorem dX5_goesOn_122 : decode cX5_goesOn 122 = .ok (.invokevirtual 167, 3) := by decide +kernel
theorem dX5_goesOn_125 : decode cX5_goesOn 125 = .ok (.ifCond .ne 5, 3) := by decide +kernel
theorem dX5_goesOn_128 : decode cX5_goesOn 128 = .ok (.iconst 0, 1) := by decide +kernel
theorem dX5_goesOn_129 : decode cX5_goesOn 129 = .ok (.ireturn, 1) := by decide +kernel
theorem dX5_goesOn_130 : decode cX5_goesOn 130 = .ok (.iinc 7 1, 3) := by decide +kernel
theorem dX5_goesOn_133 : decode cX5_goesOn 133 = .ok (.goto (-111), 3) := by decide +kernel
theorem dX5_goesOn_136 : decode cX5_goesOn 136 = .ok (.iinc 6 1, 3) := by decide +kernel
theorem dX5_goesOn_139 : decode cX5_goesOn 139 = .ok (.goto (-126), 3) := by decide +kernel
theorem dX5_goesOn_142 : decode cX5_goesOn 142 = .ok (.iinc 5 1, 3) := by decide +kernel
theorem dX5_goesOn_145 : decode cX5_goesOn 145 = .ok (.goto (-142), 3) := by decide +kernel
theorem dX5_goesOn_148 : decode cX5_goesOn 148 = .ok (.iconst 1, 1) := by decide +kernel
theorem dX5_goesOn_149 : decode cX5_goesOn 149 = .ok (.ireturn, 1) := by decide +kernel
theorem dX5_find_0 : decode cX5_find 0 = .ok (.iload_n 1, 1) := by decide +kernel
theorem dX5_find_1 : decode cX5_find 1 = .ok (.iconst 1, 1) := by decide +kernel
theorem dX5_find_2 : decode cX5_find 2 = .ok (.iconst 3, 1) := by decide +kernel
theorem dX5_find_3 : decode cX5_find 3 = .ok (.invokestatic 98, 3) := by decide +kernel
theorem dX5_find_6 : decode cX5_find 6 = .ok (.ifCond .eq 27, 3) := by decide +kernel
theorem dX5_find_9 : decode cX5_find 9 = .ok (.iload_n 2, 1) := by decide +kernel
theorem dX5_find_10 : decode cX5_find 10 = .ok (.iload_n 1, 1) := by decide +kernel
theorem dX5_find_11 : decode cX5_find 11 = .ok (.iconst 5, 1) := by decide +kernel
theorem dX5_find_12 : decode cX5_find 12 = .ok (.invokestatic 98, 3) := by decide +kernel
theorem dX5_find_15 : decode cX5_find 15 = .ok (.ifCond .eq 18, 3) := by decide +kernel
theorem dX5_find_18 : decode cX5_find 18 = .ok (.iload_n 3, 1) := by decide +kernel
theorem dX5_find_19 : decode cX5_find 19 = .ok (.iconst 0, 1) := by decide +kernel
theorem dX5_find_20 : decode cX5_find 20 = .ok (.iconst 1, 1) := by decide +kernel
theorem dX5_find_21 : decode cX5_find 21 = .ok (.iconst 1, 1) := by decide +kernel
theorem dX5_find_22 : decode cX5_find 22 = .ok (.iload_n 1, 1) := by decide +kernel
theorem dX5_find_23 : decode cX5_find 23 = .ok (.ishl, 1) := by decide +kernel
theorem dX5_find_24 : decode cX5_find 24 = .ok (.ishl, 1) := by decide +kernel
theorem dX5_find_25 : decode cX5_find 25 = .ok (.iconst 1, 1) := by decide +kernel
theorem dX5_find_26 : decode cX5_find 26 = .ok (.isub, 1) := by decide +kernel
theorem dX5_find_27 : decode cX5_find 27 = .ok (.invokestatic 98, 3) := by decide +kernel
theorem dX5_find_30 : decode cX5_find 30 = .ok (.ifCond .ne 6, 3) := by decide +kernel
theorem dX5_find_33 : decode cX5_find 33 = .ok (.bipush (-2), 2) := by decide +kernel
theorem dX5_find_35 : decode cX5_find 35 = .ok (.ireturn, 1) := by decide +kernel
theorem dX5_find_36 : decode cX5_find 36 = .ok (.iconst 1, 1) := by decide +kernel
theorem dX5_find_37 : decode cX5_find 37 = .ok (.iconst 1, 1) := by decide +kernel
theorem dX5_find_38 : decode cX5_find 38 = .ok (.iload_n 1, 1) := by decide +kernel
theorem dX5_find_39 : decode cX5_find 39 = .ok (.ishl, 1) := by decide +kernel
theorem dX5_find_40 : decode cX5_find 40 = .ok (.ishl, 1) := by decide +kernel
theorem dX5_find_41 : decode cX5_find 41 = .ok (.iconst 1, 1) := by decide +kernel
theorem dX5_find_42 : decode cX5_find 42 = .ok (.isub, 1) := by decide +kernel
theorem dX5_find_43 : decode cX5_find 43 = .ok (.istore 4, 2) := by decide +kernel
theorem dX5_find_45 : decode cX5_find 45 = .ok (.iconst 0, 1) := by decide +kernel
theorem dX5_find_46 : decode cX5_find 46 = .ok (.istore 5, 2) := by decide +kernel
theorem dX5_find_48 : decode cX5_find 48 = .ok (.iload 5, 2) := by decide +kernel
theorem dX5_find_50 : decode cX5_find 50 = .ok (.sipush 16384, 3) := by decide +kernel
theorem dX5_find_53 : decode cX5_find 53 = .ok (.if_icmp .ge 17, 3) := by decide +kernel
theorem dX5_find_56 : decode cX5_find 56 = .ok (.aload_n 0, 1) := by decide +kernel
theorem dX5_find_57 : decode cX5_find 57 = .ok (.getfield 69, 3) := by decide +kernel
theorem dX5_find_60 : decode cX5_find 60 = .ok (.iload 5, 2) := by decide +kernel
theorem dX5_find_62 : decode cX5_find 62 = .ok (.iconst 0, 1) := by decide +kernel
theorem dX5_find_63 : decode cX5_find 63 = .ok (.iastore, 1) := by decide +kernel
theorem dX5_find_64 : decode cX5_find 64 = .ok (.iinc 5 1, 3) := by decide +kernel
theorem dX5_find_67 : decode cX5_find 67 = .ok (.goto (-19), 3) := by decide +kernel
theorem dX5_find_70 : decode cX5_find 70 = .ok (.aload_n 0, 1) := by decide +kernel
theorem dX5_find_71 : decode cX5_find 71 = .ok (.iconst 0, 1) := by decide +kernel
theorem dX5_find_72 : decode cX5_find 72 = .ok (.putfield 149, 3) := by decide +kernel
theorem dX5_find_75 : decode cX5_find 75 = .ok (.lconst 0, 1) := by decide +kernel
theorem dX5_find_76 : decode cX5_find 76 = .ok (.lstore 5, 2) := by decide +kernel
theorem dX5_find_78 : decode cX5_find 78 = .ok (.iconst 0, 1) := by decide +kernel
theorem dX5_find_79 : decode cX5_find 79 = .ok (.istore 7, 2) := by decide +kernel
theorem dX5_find_81 : decode cX5_find 81 = .ok (.iload 7, 2) := by decide +kernel
theorem dX5_find_83 : decode cX5_find 83 = .ok (.iconst 1, 1) := by decide +kernel
theorem dX5_find_84 : decode cX5_find 84 = .ok (.iload_n 1, 1) := by decide +kernel
theorem dX5_find_85 : decode cX5_find 85 = .ok (.ishl, 1) := by decide +kernel
theorem dX5_find_86 : decode cX5_find 86 = .ok (.if_icmp .ge 54, 3) := by decide +kernel
theorem dX5_find_89 : decode cX5_find 89 = .ok (.iconst 0, 1) := by decide +kernel
theorem dX5_find_90 : decode cX5_find 90 = .ok (.istore 8, 2) := by decide +kernel
theorem dX5_find_92 : decode cX5_find 92 = .ok (.iload 8, 2) := by decide +kernel
theorem dX5_find_94 : decode cX5_find 94 = .ok (.iload_n 1, 1) := by decide +kernel
theorem dX5_find_95 : decode cX5_find 95 = .ok (.if_icmp .ge 39, 3) := by decide +kernel
theorem dX5_find_98 : decode cX5_find 98 = .ok (.lload 5, 2) := by decide +kernel
theorem dX5_find_100 : decode cX5_find 100 = .ok (.iload 7, 2) := by decide +kernel
theorem dX5_find_102 : decode cX5_find 102 = .ok (.iload 8, 2) := by decide +kernel
theorem dX5_find_104 : decode cX5_find 104 = .ok (.ishr, 1) := by decide +kernel
theorem dX5_find_105 : decode cX5_find 105 = .ok (.iconst 1, 1) := by decide +kernel
theorem dX5_find_106 : decode cX5_find 106 = .ok (.iand, 1) := by decide +kernel
theorem dX5_find_107 : decode cX5_find 107 = .ok (.iconst 1, 1) := by decide +kernel
theorem dX5_find_108 : decode cX5_find 108 = .ok (.if_icmp .ne 16, 3) := by decide +kernel
theorem dX5_find_111 : decode cX5_find 111 = .ok (.lconst 1, 1) := by decide +kernel
theorem dX5_find_112 : decode cX5_find 112 = .ok (.bipush 8, 2) := by decide +kernel
theorem dX5_find_114 : decode cX5_find 114 = .ok (.iload 8, 2) := by decide +kernel
theorem dX5_find_116 : decode cX5_find 116 = .ok (.imul, 1) := by decide +kernel
theorem dX5_find_117 : decode cX5_find 117 = .ok (.iload 7, 2) := by decide +kernel
theorem dX5_find_119 : decode cX5_find 119 = .ok (.iadd, 1) := by decide +kernel
theorem dX5_find_120 : decode cX5_find 120 = .ok (.lshl, 1) := by decide +kernel
theorem dX5_find_121 : decode cX5_find 121 = .ok (.goto 4, 3) := by decide +kernel
theorem dX5_find_124 : decode cX5_find 124 = .ok (.lconst 0, 1) := by decide +kernel
theorem dX5_find_125 : decode cX5_find 125 = .ok (.lor, 1) := by decide +kernel
theorem dX5_find_126 : decode cX5_find 126 = .ok (.lstore 5, 2) := by decide +kernel
theorem dX5_find_128 : decode cX5_find 128 = .ok (.iinc 8 1, 3) := by decide +kernel
theorem dX5_find_131 : decode cX5_find 131 = .ok (.goto (-39), 3) := by decide +kernel
theorem dX5_find_134 : decode cX5_find 134 = .ok (.iinc 7 1, 3) := by decide +kernel
theorem dX5_find_137 : decode cX5_find 137 = .ok (.goto (-56), 3) := by decide +kernel
theorem dX5_find_140 : decode cX5_find 140 = .ok (.aload_n 0, 1) := by decide +kernel
theorem dX5_find_141 : decode cX5_find 141 = .ok (.lload 5, 2) := by decide +kernel
theorem dX5_find_143 : decode cX5_find 143 = .ok (.iconst 0, 1) := by decide +kernel
theorem dX5_find_144 : decode cX5_find 144 = .ok (.iconst 0, 1) := by decide +kernel
theorem dX5_find_145 : decode cX5_find 145 = .ok (.invokevirtual 167, 3) := by decide +kernel
theorem dX5_find_148 : decode cX5_find 148 = .ok (.pop, 1) := by decide +kernel
theorem dX5_find_149 : decode cX5_find 149 = .ok (.iconst 0, 1) := by decide +kernel
theorem dX5_find_150 : decode cX5_find 150 = .ok (.istore 7, 2) := by decide +kernel
theorem dX5_find_152 : decode cX5_find 152 = .ok (.iload 7, 2) := by decide +kernel
theorem dX5_find_154 : decode cX5_find 154 = .ok (.aload_n 0, 1) := by decide +kernel
theorem dX5_find_155 : decode cX5_find 155 = .ok (.getfield 149, 3) := by decide +kernel
theorem dX5_find_158 : decode cX5_find 158 = .ok (.if_icmp .ge 58, 3) := by decide +kernel
theorem dX5_find_161 : decode cX5_find 161 = .ok (.aload_n 0, 1) := by decide +kernel
theorem dX5_find_162 : decode cX5_find 162 = .ok (.getfield 59, 3) := by decide +kernel
theorem dX5_find_165 : decode cX5_find 165 = .ok (.iload 7, 2) := by decide +kernel
theorem dX5_find_167 : decode cX5_find 167 = .ok (.laload, 1) := by decide +kernel
theorem dX5_find_168 : decode cX5_find 168 = .ok (.iload_n 2, 1) := by decide +kernel
theorem dX5_find_169 : decode cX5_find 169 = .ok (.iload_n 3, 1) := by decide +kernel
theorem dX5_find_170 : decode cX5_find 170 = .ok (.invokestatic 171, 3) := by decide +kernel
theorem dX5_find_173 : decode cX5_find 173 = .ok (.istore 8, 2) := by decide +kernel
theorem dX5_find_175 : decode cX5_find 175 = .ok (.iload 8, 2) := by decide +kernel
theorem dX5_find_177 : decode cX5_find 177 = .ok (.iconst (-1), 1) := by decide +kernel
theorem dX5_find_178 : decode cX5_find 178 = .ok (.if_icmp .eq 16, 3) := by decide +kernel
theorem dX5_find_181 : decode cX5_find 181 = .ok (.aload_n 0, 1) := by decide +kernel
theorem dX5_find_182 : decode cX5_find 182 = .ok (.iload 7, 2) := by decide +kernel
theorem dX5_find_184 : decode cX5_find 184 = .ok (.iload 8, 2) := by decide +kernel
theorem dX5_find_186 : decode cX5_find 186 = .ok (.invokevirtual 175, 3) := by decide +kernel
theorem dX5_find_189 : decode cX5_find 189 = .ok (.aload_n 0, 1) := by decide +kernel
theorem dX5_find_190 : decode cX5_find 190 = .ok (.getfield 160, 3) := by decide +kernel
theorem dX5_find_193 : decode cX5_find 193 = .ok (.ireturn, 1) := by decide +kernel
theorem dX5_find_194 : decode cX5_find 194 = .ok (.aload_n 0, 1) := by decide +kernel
theorem dX5_find_195 : decode cX5_find 195 = .ok (.iload 7, 2) := by decide +kernel
theorem dX5_find_197 : decode cX5_find 197 = .ok (.iload_n 1, 1) := by decide +kernel
theorem dX5_find_198 : decode cX5_find 198 = .ok (.iload_n 2, 1) := by decide +kernel
theorem dX5_find_199 : decode cX5_find 199 = .ok (.iload 4, 2) := by decide +kernel
theorem dX5_find_201 : decode cX5_find 201 = .ok (.invokevirtual 179, 3) := by decide +kernel
theorem dX5_find_204 : decode cX5_find 204 = .ok (.ifCond .ne 6, 3) := by decide +kernel
theorem dX5_find_207 : decode cX5_find 207 = .ok (.bipush (-5), 2) := by decide +kernel
theorem dX5_find_209 : decode cX5_find 209 = .ok (.ireturn, 1) := by decide +kernel
theorem dX5_find_210 : decode cX5_find 210 = .ok (.iinc 7 1, 3) := by decide +kernel
theorem dX5_find_213 : decode cX5_find 213 = .ok (.goto (-61), 3) := by decide +kernel
theorem dX5_find_216 : decode cX5_find 216 = .ok (.iconst (-1), 1) := by decide +kernel
theorem dX5_find_217 : decode cX5_find 217 = .ok (.ireturn, 1) := by decide +kernel
theorem dX5_actAt_0 : decode cX5_actAt 0 = .ok (.iload_n 2, 1) := by decide +kernel
theorem dX5_actAt_1 : decode cX5_actAt 1 = .ok (.iconst 0, 1) := by decide +kernel
theorem dX5_actAt_2 : decode cX5_actAt 2 = .ok (.iconst 2, 1) := by decide +kernel
theorem dX5_actAt_3 : decode cX5_actAt 3 = .ok (.invokestatic 98, 3) := by decide +kernel
theorem dX5_actAt_6 : decode cX5_actAt 6 = .ok (.ifCond .ne 6, 3) := by decide +kernel
theorem dX5_actAt_9 : decode cX5_actAt 9 = .ok (.bipush (-2), 2) := by decide +kernel
theorem dX5_actAt_11 : decode cX5_actAt 11 = .ok (.ireturn, 1) := by decide +kernel
theorem dX5_actAt_12 : decode cX5_actAt 12 = .ok (.iload_n 1, 1) := by decide +kernel
theorem dX5_actAt_13 : decode cX5_actAt 13 = .ok (.iconst 0, 1) := by decide +kernel
theorem dX5_actAt_14 : decode cX5_actAt 14 = .ok (.aload_n 0, 1) := by decide +kernel
theorem dX5_actAt_15 : decode cX5_actAt 15 = .ok (.getfield 160, 3) := by decide +kernel
theorem dX5_actAt_18 : decode cX5_actAt 18 = .ok (.iconst 1, 1) := by decide +kernel
theorem dX5_actAt_19 : decode cX5_actAt 19 = .ok (.isub, 1) := by decide +kernel
theorem dX5_actAt_20 : decode cX5_actAt 20 = .ok (.invokestatic 98, 3) := by decide +kernel
theorem dX5_actAt_23 : decode cX5_actAt 23 = .ok (.ifCond .ne 7, 3) := by decide +kernel
theorem dX5_actAt_26 : decode cX5_actAt 26 = .ok (.iconst (-1), 1) := by decide +kernel
theorem dX5_actAt_27 : decode cX5_actAt 27 = .ok (.goto 48, 3) := by decide +kernel
theorem dX5_actAt_30 : decode cX5_actAt 30 = .ok (.iload_n 2, 1) := by decide +kernel
theorem dX5_actAt_31 : decode cX5_actAt 31 = .ok (.ifCond .ne 15, 3) := by decide +kernel
theorem dX5_actAt_34 : decode cX5_actAt 34 = .ok (.aload_n 0, 1) := by decide +kernel
theorem dX5_actAt_35 : decode cX5_actAt 35 = .ok (.getfield 72, 3) := by decide +kernel
theorem dX5_actAt_38 : decode cX5_actAt 38 = .ok (.iload_n 1, 1) := by decide +kernel
theorem dX5_actAt_39 : decode cX5_actAt 39 = .ok (.iaload, 1) := by decide +kernel
theorem dX5_actAt_40 : decode cX5_actAt 40 = .ok (.bipush 64, 2) := by decide +kernel
theorem dX5_actAt_42 : decode cX5_actAt 42 = .ok (.idiv, 1) := by decide +kernel
theorem dX5_actAt_43 : decode cX5_actAt 43 = .ok (.goto 32, 3) := by decide +kernel
theorem dX5_actAt_46 : decode cX5_actAt 46 = .ok (.iload_n 2, 1) := by decide +kernel
theorem dX5_actAt_47 : decode cX5_actAt 47 = .ok (.iconst 1, 1) := by decide +kernel
theorem dX5_actAt_48 : decode cX5_actAt 48 = .ok (.if_icmp .ne 18, 3) := by decide +kernel
theorem dX5_actAt_51 : decode cX5_actAt 51 = .ok (.aload_n 0, 1) := by decide +kernel
theorem dX5_actAt_52 : decode cX5_actAt 52 = .ok (.getfield 72, 3) := by decide +kernel
theorem dX5_actAt_55 : decode cX5_actAt 55 = .ok (.iload_n 1, 1) := by decide +kernel
theorem dX5_actAt_56 : decode cX5_actAt 56 = .ok (.iaload, 1) := by decide +kernel
theorem dX5_actAt_57 : decode cX5_actAt 57 = .ok (.bipush 8, 2) := by decide +kernel
theorem dX5_actAt_59 : decode cX5_actAt 59 = .ok (.idiv, 1) := by decide +kernel
theorem dX5_actAt_60 : decode cX5_actAt 60 = .ok (.bipush 8, 2) := by decide +kernel
theorem dX5_actAt_62 : decode cX5_actAt 62 = .ok (.irem, 1) := by decide +kernel
theorem dX5_actAt_63 : decode cX5_actAt 63 = .ok (.goto 12, 3) := by decide +kernel
theorem dX5_actAt_66 : decode cX5_actAt 66 = .ok (.aload_n 0, 1) := by decide +kernel
theorem dX5_actAt_67 : decode cX5_actAt 67 = .ok (.getfield 72, 3) := by decide +kernel
theorem dX5_actAt_70 : decode cX5_actAt 70 = .ok (.iload_n 1, 1) := by decide +kernel
theorem dX5_actAt_71 : decode cX5_actAt 71 = .ok (.iaload, 1) := by decide +kernel
theorem dX5_actAt_72 : decode cX5_actAt 72 = .ok (.bipush 8, 2) := by decide +kernel
theorem dX5_actAt_74 : decode cX5_actAt 74 = .ok (.irem, 1) := by decide +kernel
theorem dX5_actAt_75 : decode cX5_actAt 75 = .ok (.ireturn, 1) := by decide +kernel
theorem dX5_where_0 : decode cX5_where 0 = .ok (.aload_n 0, 1) := by decide +kernel
theorem dX5_where_1 : decode cX5_where 1 = .ok (.getfield 75, 3) := by decide +kernel
theorem dX5_where_4 : decode cX5_where 4 = .ok (.ireturn, 1) := by decide +kernel
theorem dX5_met_0 : decode cX5_met 0 = .ok (.aload_n 0, 1) := by decide +kernel
theorem dX5_met_1 : decode cX5_met 1 = .ok (.getfield 149, 3) := by decide +kernel
theorem dX5_met_4 : decode cX5_met 4 = .ok (.ireturn, 1) := by decide +kernel
theorem dX5_count_0 : decode cX5_count 0 = .ok (.iconst 0, 1) := by decide +kernel
theorem dX5_count_1 : decode cX5_count 1 = .ok (.istore_n 2, 1) := by decide +kernel
theorem dX5_count_2 : decode cX5_count 2 = .ok (.iload_n 1, 1) := by decide +kernel
theorem dX5_count_3 : decode cX5_count 3 = .ok (.tableswitch 140 0 8 #[49, 54, 59, 64, 99, 104, 109, 114, 127], 49) := by decide +kernel
theorem dX5_count_52 : decode cX5_count 52 = .ok (.aload_n 0, 1) := by decide +kernel
theorem dX5_count_53 : decode cX5_count 53 = .ok (.getfield 7, 3) := by decide +kernel
theorem dX5_count_56 : decode cX5_count 56 = .ok (.ireturn, 1) := by decide +kernel
theorem dX5_count_57 : decode cX5_count 57 = .ok (.aload_n 0, 1) := by decide +kernel
theorem dX5_count_58 : decode cX5_count 58 = .ok (.getfield 13, 3) := by decide +kernel
theorem dX5_count_61 : decode cX5_count 61 = .ok (.ireturn, 1) := by decide +kernel
theorem dX5_count_62 : decode cX5_count 62 = .ok (.aload_n 0, 1) := by decide +kernel
theorem dX5_count_63 : decode cX5_count 63 = .ok (.getfield 16, 3) := by decide +kernel
theorem dX5_count_66 : decode cX5_count 66 = .ok (.ireturn, 1) := by decide +kernel
theorem dX5_count_67 : decode cX5_count 67 = .ok (.iconst 0, 1) := by decide +kernel
theorem dX5_count_68 : decode cX5_count 68 = .ok (.istore_n 3, 1) := by decide +kernel
theorem dX5_count_69 : decode cX5_count 69 = .ok (.iload_n 3, 1) := by decide +kernel
theorem dX5_count_70 : decode cX5_count 70 = .ok (.sipush 192, 3) := by decide +kernel
theorem dX5_count_73 : decode cX5_count 73 = .ok (.if_icmp .ge 27, 3) := by decide +kernel
theorem dX5_count_76 : decode cX5_count 76 = .ok (.iload_n 2, 1) := by decide +kernel
theorem dX5_count_77 : decode cX5_count 77 = .ok (.aload_n 0, 1) := by decide +kernel
theorem dX5_count_78 : decode cX5_count 78 = .ok (.getfield 23, 3) := by decide +kernel
theorem dX5_count_81 : decode cX5_count 81 = .ok (.iload_n 3, 1) := by decide +kernel
theorem dX5_count_82 : decode cX5_count 82 = .ok (.iaload, 1) := by decide +kernel
theorem dX5_count_83 : decode cX5_count 83 = .ok (.iconst (-1), 1) := by decide +kernel
theorem dX5_count_84 : decode cX5_count 84 = .ok (.if_icmp .ne 7, 3) := by decide +kernel
theorem dX5_count_87 : decode cX5_count 87 = .ok (.iconst 0, 1) := by decide +kernel
theorem dX5_count_88 : decode cX5_count 88 = .ok (.goto 4, 3) := by decide +kernel
theorem dX5_count_91 : decode cX5_count 91 = .ok (.iconst 1, 1) := by decide +kernel
theorem dX5_count_92 : decode cX5_count 92 = .ok (.iadd, 1) := by decide +kernel
theorem dX5_count_93 : decode cX5_count 93 = .ok (.istore_n 2, 1) := by decide +kernel
theorem dX5_count_94 : decode cX5_count 94 = .ok (.iinc 3 1, 3) := by decide +kernel
theorem dX5_count_97 : decode cX5_count 97 = .ok (.goto (-28), 3) := by decide +kernel
theorem dX5_count_100 : decode cX5_count 100 = .ok (.iload_n 2, 1) := by decide +kernel
theorem dX5_count_101 : decode cX5_count 101 = .ok (.ireturn, 1) := by decide +kernel
theorem dX5_count_102 : decode cX5_count 102 = .ok (.aload_n 0, 1) := by decide +kernel
theorem dX5_count_103 : decode cX5_count 103 = .ok (.getfield 82, 3) := by decide +kernel
theorem dX5_count_106 : decode cX5_count 106 = .ok (.ireturn, 1) := by decide +kernel
theorem dX5_count_107 : decode cX5_count 107 = .ok (.aload_n 0, 1) := by decide +kernel
theorem dX5_count_108 : decode cX5_count 108 = .ok (.getfield 85, 3) := by decide +kernel
theorem dX5_count_111 : decode cX5_count 111 = .ok (.ireturn, 1) := by decide +kernel
theorem dX5_count_112 : decode cX5_count 112 = .ok (.aload_n 0, 1) := by decide +kernel
theorem dX5_count_113 : decode cX5_count 113 = .ok (.getfield 88, 3) := by decide +kernel
theorem dX5_count_116 : decode cX5_count 116 = .ok (.ireturn, 1) := by decide +kernel
theorem dX5_count_117 : decode cX5_count 117 = .ok (.aload_n 0, 1) := by decide +kernel
theorem dX5_count_118 : decode cX5_count 118 = .ok (.getfield 91, 3) := by decide +kernel
theorem dX5_count_121 : decode cX5_count 121 = .ok (.ifCond .eq 7, 3) := by decide +kernel
theorem dX5_count_124 : decode cX5_count 124 = .ok (.iconst 1, 1) := by decide +kernel
theorem dX5_count_125 : decode cX5_count 125 = .ok (.goto 4, 3) := by decide +kernel
theorem dX5_count_128 : decode cX5_count 128 = .ok (.iconst 0, 1) := by decide +kernel
theorem dX5_count_129 : decode cX5_count 129 = .ok (.ireturn, 1) := by decide +kernel
theorem dX5_count_130 : decode cX5_count 130 = .ok (.aload_n 0, 1) := by decide +kernel
theorem dX5_count_131 : decode cX5_count 131 = .ok (.getfield 95, 3) := by decide +kernel
theorem dX5_count_134 : decode cX5_count 134 = .ok (.ifCond .eq 7, 3) := by decide +kernel
theorem dX5_count_137 : decode cX5_count 137 = .ok (.iconst 1, 1) := by decide +kernel
theorem dX5_count_138 : decode cX5_count 138 = .ok (.goto 4, 3) := by decide +kernel
theorem dX5_count_141 : decode cX5_count 141 = .ok (.iconst 0, 1) := by decide +kernel
theorem dX5_count_142 : decode cX5_count 142 = .ok (.ireturn, 1) := by decide +kernel
theorem dX5_count_143 : decode cX5_count 143 = .ok (.bipush (-2), 2) := by decide +kernel
theorem dX5_count_145 : decode cX5_count 145 = .ok (.ireturn, 1) := by decide +kernel
theorem dX5_digest_0 : decode cX5_digest 0 = .ok (.ldc2_w 183, 3) := by decide +kernel
theorem dX5_digest_3 : decode cX5_digest 3 = .ok (.lstore_n 1, 1) := by decide +kernel
theorem dX5_digest_4 : decode cX5_digest 4 = .ok (.iconst 0, 1) := by decide +kernel
theorem dX5_digest_5 : decode cX5_digest 5 = .ok (.istore_n 3, 1) := by decide +kernel
theorem dX5_digest_6 : decode cX5_digest 6 = .ok (.iload_n 3, 1) := by decide +kernel
theorem dX5_digest_7 : decode cX5_digest 7 = .ok (.bipush 9, 2) := by decide +kernel
theorem dX5_digest_9 : decode cX5_digest 9 = .ok (.if_icmp .ge 22, 3) := by decide +kernel
theorem dX5_digest_12 : decode cX5_digest 12 = .ok (.ldc2_w 185, 3) := by decide +kernel
theorem dX5_digest_15 : decode cX5_digest 15 = .ok (.lload_n 1, 1) := by decide +kernel
theorem dX5_digest_16 : decode cX5_digest 16 = .ok (.lmul, 1) := by decide +kernel
theorem dX5_digest_17 : decode cX5_digest 17 = .ok (.aload_n 0, 1) := by decide +kernel
theorem dX5_digest_18 : decode cX5_digest 18 = .ok (.iload_n 3, 1) := by decide +kernel
theorem dX5_digest_19 : decode cX5_digest 19 = .ok (.invokevirtual 187, 3) := by decide +kernel
theorem dX5_digest_22 : decode cX5_digest 22 = .ok (.i2l, 1) := by decide +kernel
theorem dX5_digest_23 : decode cX5_digest 23 = .ok (.ladd, 1) := by decide +kernel
theorem dX5_digest_24 : decode cX5_digest 24 = .ok (.lstore_n 1, 1) := by decide +kernel
theorem dX5_digest_25 : decode cX5_digest 25 = .ok (.iinc 3 1, 3) := by decide +kernel
theorem dX5_digest_28 : decode cX5_digest 28 = .ok (.goto (-22), 3) := by decide +kernel
theorem dX5_digest_31 : decode cX5_digest 31 = .ok (.iconst 0, 1) := by decide +kernel
theorem dX5_digest_32 : decode cX5_digest 32 = .ok (.istore_n 3, 1) := by decide +kernel
theorem dX5_digest_33 : decode cX5_digest 33 = .ok (.iload_n 3, 1) := by decide +kernel
theorem dX5_digest_34 : decode cX5_digest 34 = .ok (.aload_n 0, 1) := by decide +kernel
theorem dX5_digest_35 : decode cX5_digest 35 = .ok (.getfield 7, 3) := by decide +kernel
theorem dX5_digest_38 : decode cX5_digest 38 = .ok (.if_icmp .ge 63, 3) := by decide +kernel
theorem dX5_digest_41 : decode cX5_digest 41 = .ok (.iconst 0, 1) := by decide +kernel
theorem dX5_digest_42 : decode cX5_digest 42 = .ok (.istore 4, 2) := by decide +kernel
theorem dX5_digest_44 : decode cX5_digest 44 = .ok (.iload 4, 2) := by decide +kernel
theorem dX5_digest_46 : decode cX5_digest 46 = .ok (.aload_n 0, 1) := by decide +kernel
theorem dX5_digest_47 : decode cX5_digest 47 = .ok (.getfield 13, 3) := by decide +kernel
theorem dX5_digest_50 : decode cX5_digest 50 = .ok (.if_icmp .ge 45, 3) := by decide +kernel
theorem dX5_digest_53 : decode cX5_digest 53 = .ok (.iconst 0, 1) := by decide +kernel
theorem dX5_digest_54 : decode cX5_digest 54 = .ok (.istore 5, 2) := by decide +kernel
theorem dX5_digest_56 : decode cX5_digest 56 = .ok (.iload 5, 2) := by decide +kernel
theorem dX5_digest_58 : decode cX5_digest 58 = .ok (.iconst 3, 1) := by decide +kernel
theorem dX5_digest_59 : decode cX5_digest 59 = .ok (.if_icmp .ge 30, 3) := by decide +kernel
theorem dX5_digest_62 : decode cX5_digest 62 = .ok (.ldc2_w 185, 3) := by decide +kernel
theorem dX5_digest_65 : decode cX5_digest 65 = .ok (.lload_n 1, 1) := by decide +kernel
theorem dX5_digest_66 : decode cX5_digest 66 = .ok (.lmul, 1) := by decide +kernel
theorem dX5_digest_67 : decode cX5_digest 67 = .ok (.aload_n 0, 1) := by decide +kernel
theorem dX5_digest_68 : decode cX5_digest 68 = .ok (.bipush 24, 2) := by decide +kernel
theorem dX5_digest_70 : decode cX5_digest 70 = .ok (.iload_n 3, 1) := by decide +kernel
theorem dX5_digest_71 : decode cX5_digest 71 = .ok (.imul, 1) := by decide +kernel
theorem dX5_digest_72 : decode cX5_digest 72 = .ok (.iload 4, 2) := by decide +kernel
theorem dX5_digest_74 : decode cX5_digest 74 = .ok (.iadd, 1) := by decide +kernel
theorem dX5_digest_75 : decode cX5_digest 75 = .ok (.iload 5, 2) := by decide +kernel
theorem dX5_digest_77 : decode cX5_digest 77 = .ok (.invokevirtual 109, 3) := by decide +kernel
theorem dX5_digest_80 : decode cX5_digest 80 = .ok (.i2l, 1) := by decide +kernel
theorem dX5_digest_81 : decode cX5_digest 81 = .ok (.ladd, 1) := by decide +kernel
theorem dX5_digest_82 : decode cX5_digest 82 = .ok (.lstore_n 1, 1) := by decide +kernel
theorem dX5_digest_83 : decode cX5_digest 83 = .ok (.iinc 5 1, 3) := by decide +kernel
theorem dX5_digest_86 : decode cX5_digest 86 = .ok (.goto (-30), 3) := by decide +kernel
theorem dX5_digest_89 : decode cX5_digest 89 = .ok (.iinc 4 1, 3) := by decide +kernel
theorem dX5_digest_92 : decode cX5_digest 92 = .ok (.goto (-48), 3) := by decide +kernel
theorem dX5_digest_95 : decode cX5_digest 95 = .ok (.iinc 3 1, 3) := by decide +kernel
theorem dX5_digest_98 : decode cX5_digest 98 = .ok (.goto (-65), 3) := by decide +kernel
theorem dX5_digest_101 : decode cX5_digest 101 = .ok (.iconst 0, 1) := by decide +kernel
theorem dX5_digest_102 : decode cX5_digest 102 = .ok (.istore_n 3, 1) := by decide +kernel
theorem dX5_digest_103 : decode cX5_digest 103 = .ok (.iload_n 3, 1) := by decide +kernel
theorem dX5_digest_104 : decode cX5_digest 104 = .ok (.aload_n 0, 1) := by decide +kernel
theorem dX5_digest_105 : decode cX5_digest 105 = .ok (.getfield 7, 3) := by decide +kernel
theorem dX5_digest_108 : decode cX5_digest 108 = .ok (.if_icmp .ge 23, 3) := by decide +kernel
theorem dX5_digest_111 : decode cX5_digest 111 = .ok (.ldc2_w 185, 3) := by decide +kernel
theorem dX5_digest_114 : decode cX5_digest 114 = .ok (.lload_n 1, 1) := by decide +kernel
theorem dX5_digest_115 : decode cX5_digest 115 = .ok (.lmul, 1) := by decide +kernel
theorem dX5_digest_116 : decode cX5_digest 116 = .ok (.aload_n 0, 1) := by decide +kernel
theorem dX5_digest_117 : decode cX5_digest 117 = .ok (.getfield 29, 3) := by decide +kernel
theorem dX5_digest_120 : decode cX5_digest 120 = .ok (.iload_n 3, 1) := by decide +kernel
theorem dX5_digest_121 : decode cX5_digest 121 = .ok (.iaload, 1) := by decide +kernel
theorem dX5_digest_122 : decode cX5_digest 122 = .ok (.i2l, 1) := by decide +kernel
theorem dX5_digest_123 : decode cX5_digest 123 = .ok (.ladd, 1) := by decide +kernel
theorem dX5_digest_124 : decode cX5_digest 124 = .ok (.lstore_n 1, 1) := by decide +kernel
theorem dX5_digest_125 : decode cX5_digest 125 = .ok (.iinc 3 1, 3) := by decide +kernel
theorem dX5_digest_128 : decode cX5_digest 128 = .ok (.goto (-25), 3) := by decide +kernel
theorem dX5_digest_131 : decode cX5_digest 131 = .ok (.iconst 0, 1) := by decide +kernel
theorem dX5_digest_132 : decode cX5_digest 132 = .ok (.istore_n 3, 1) := by decide +kernel
theorem dX5_digest_133 : decode cX5_digest 133 = .ok (.iload_n 3, 1) := by decide +kernel
theorem dX5_digest_134 : decode cX5_digest 134 = .ok (.aload_n 0, 1) := by decide +kernel
theorem dX5_digest_135 : decode cX5_digest 135 = .ok (.getfield 82, 3) := by decide +kernel
theorem dX5_digest_138 : decode cX5_digest 138 = .ok (.if_icmp .ge 61, 3) := by decide +kernel
theorem dX5_digest_141 : decode cX5_digest 141 = .ok (.ldc2_w 185, 3) := by decide +kernel
theorem dX5_digest_144 : decode cX5_digest 144 = .ok (.lload_n 1, 1) := by decide +kernel
theorem dX5_digest_145 : decode cX5_digest 145 = .ok (.lmul, 1) := by decide +kernel
theorem dX5_digest_146 : decode cX5_digest 146 = .ok (.aload_n 0, 1) := by decide +kernel
theorem dX5_digest_147 : decode cX5_digest 147 = .ok (.getfield 38, 3) := by decide +kernel
theorem dX5_digest_150 : decode cX5_digest 150 = .ok (.iload_n 3, 1) := by decide +kernel
theorem dX5_digest_151 : decode cX5_digest 151 = .ok (.iaload, 1) := by decide +kernel
theorem dX5_digest_152 : decode cX5_digest 152 = .ok (.i2l, 1) := by decide +kernel
theorem dX5_digest_153 : decode cX5_digest 153 = .ok (.ladd, 1) := by decide +kernel
theorem dX5_digest_154 : decode cX5_digest 154 = .ok (.lstore_n 1, 1) := by decide +kernel
theorem dX5_digest_155 : decode cX5_digest 155 = .ok (.iconst 0, 1) := by decide +kernel
theorem dX5_digest_156 : decode cX5_digest 156 = .ok (.istore 4, 2) := by decide +kernel
theorem dX5_digest_158 : decode cX5_digest 158 = .ok (.iload 4, 2) := by decide +kernel
theorem dX5_digest_160 : decode cX5_digest 160 = .ok (.aload_n 0, 1) := by decide +kernel
theorem dX5_digest_161 : decode cX5_digest 161 = .ok (.getfield 85, 3) := by decide +kernel
theorem dX5_digest_164 : decode cX5_digest 164 = .ok (.if_icmp .ge 29, 3) := by decide +kernel
theorem dX5_digest_167 : decode cX5_digest 167 = .ok (.ldc2_w 185, 3) := by decide +kernel
theorem dX5_digest_170 : decode cX5_digest 170 = .ok (.lload_n 1, 1) := by decide +kernel
theorem dX5_digest_171 : decode cX5_digest 171 = .ok (.lmul, 1) := by decide +kernel
theorem dX5_digest_172 : decode cX5_digest 172 = .ok (.aload_n 0, 1) := by decide +kernel
theorem dX5_digest_173 : decode cX5_digest 173 = .ok (.getfield 35, 3) := by decide +kernel
theorem dX5_digest_176 : decode cX5_digest 176 = .ok (.bipush 12, 2) := by decide +kernel
theorem dX5_digest_178 : decode cX5_digest 178 = .ok (.iload_n 3, 1) := by decide +kernel
theorem dX5_digest_179 : decode cX5_digest 179 = .ok (.imul, 1) := by decide +kernel
theorem dX5_digest_180 : decode cX5_digest 180 = .ok (.iload 4, 2) := by decide +kernel
theorem dX5_digest_182 : decode cX5_digest 182 = .ok (.iadd, 1) := by decide +kernel
theorem dX5_digest_183 : decode cX5_digest 183 = .ok (.iaload, 1) := by decide +kernel
theorem dX5_digest_184 : decode cX5_digest 184 = .ok (.i2l, 1) := by decide +kernel
theorem dX5_digest_185 : decode cX5_digest 185 = .ok (.ladd, 1) := by decide +kernel
theorem dX5_digest_186 : decode cX5_digest 186 = .ok (.lstore_n 1, 1) := by decide +kernel
theorem dX5_digest_187 : decode cX5_digest 187 = .ok (.iinc 4 1, 3) := by decide +kernel
theorem dX5_digest_190 : decode cX5_digest 190 = .ok (.goto (-32), 3) := by decide +kernel
theorem dX5_digest_193 : decode cX5_digest 193 = .ok (.iinc 3 1, 3) := by decide +kernel
theorem dX5_digest_196 : decode cX5_digest 196 = .ok (.goto (-63), 3) := by decide +kernel
theorem dX5_digest_199 : decode cX5_digest 199 = .ok (.iconst 0, 1) := by decide +kernel
theorem dX5_digest_200 : decode cX5_digest 200 = .ok (.istore_n 3, 1) := by decide +kernel
theorem dX5_digest_201 : decode cX5_digest 201 = .ok (.iload_n 3, 1) := by decide +kernel
theorem dX5_digest_202 : decode cX5_digest 202 = .ok (.aload_n 0, 1) := by decide +kernel
theorem dX5_digest_203 : decode cX5_digest 203 = .ok (.getfield 160, 3) := by decide +kernel
theorem dX5_digest_206 : decode cX5_digest 206 = .ok (.if_icmp .ge 59, 3) := by decide +kernel
theorem dX5_digest_209 : decode cX5_digest 209 = .ok (.ldc2_w 185, 3) := by decide +kernel
theorem dX5_digest_212 : decode cX5_digest 212 = .ok (.ldc2_w 185, 3) := by decide +kernel
theorem dX5_digest_215 : decode cX5_digest 215 = .ok (.ldc2_w 185, 3) := by decide +kernel
theorem dX5_digest_218 : decode cX5_digest 218 = .ok (.lload_n 1, 1) := by decide +kernel
theorem dX5_digest_219 : decode cX5_digest 219 = .ok (.lmul, 1) := by decide +kernel
theorem dX5_digest_220 : decode cX5_digest 220 = .ok (.aload_n 0, 1) := by decide +kernel
theorem dX5_digest_221 : decode cX5_digest 221 = .ok (.getfield 72, 3) := by decide +kernel
theorem dX5_digest_224 : decode cX5_digest 224 = .ok (.iload_n 3, 1) := by decide +kernel
theorem dX5_digest_225 : decode cX5_digest 225 = .ok (.iaload, 1) := by decide +kernel
theorem dX5_digest_226 : decode cX5_digest 226 = .ok (.bipush 64, 2) := by decide +kernel
theorem dX5_digest_228 : decode cX5_digest 228 = .ok (.idiv, 1) := by decide +kernel
theorem dX5_digest_229 : decode cX5_digest 229 = .ok (.i2l, 1) := by decide +kernel
theorem dX5_digest_230 : decode cX5_digest 230 = .ok (.ladd, 1) := by decide +kernel
theorem dX5_digest_231 : decode cX5_digest 231 = .ok (.lmul, 1) := by decide +kernel
theorem dX5_digest_232 : decode cX5_digest 232 = .ok (.aload_n 0, 1) := by decide +kernel
theorem dX5_digest_233 : decode cX5_digest 233 = .ok (.getfield 72, 3) := by decide +kernel
theorem dX5_digest_236 : decode cX5_digest 236 = .ok (.iload_n 3, 1) := by decide +kernel
theorem dX5_digest_237 : decode cX5_digest 237 = .ok (.iaload, 1) := by decide +kernel
theorem dX5_digest_238 : decode cX5_digest 238 = .ok (.bipush 8, 2) := by decide +kernel
theorem dX5_digest_240 : decode cX5_digest 240 = .ok (.idiv, 1) := by decide +kernel
theorem dX5_digest_241 : decode cX5_digest 241 = .ok (.bipush 8, 2) := by decide +kernel
theorem dX5_digest_243 : decode cX5_digest 243 = .ok (.irem, 1) := by decide +kernel
theorem dX5_digest_244 : decode cX5_digest 244 = .ok (.i2l, 1) := by decide +kernel
theorem dX5_digest_245 : decode cX5_digest 245 = .ok (.ladd, 1) := by decide +kernel
theorem dX5_digest_246 : decode cX5_digest 246 = .ok (.lmul, 1) := by decide +kernel
theorem dX5_digest_247 : decode cX5_digest 247 = .ok (.aload_n 0, 1) := by decide +kernel
theorem dX5_digest_248 : decode cX5_digest 248 = .ok (.getfield 72, 3) := by decide +kernel
theorem dX5_digest_251 : decode cX5_digest 251 = .ok (.iload_n 3, 1) := by decide +kernel
theorem dX5_digest_252 : decode cX5_digest 252 = .ok (.iaload, 1) := by decide +kernel
theorem dX5_digest_253 : decode cX5_digest 253 = .ok (.bipush 8, 2) := by decide +kernel
theorem dX5_digest_255 : decode cX5_digest 255 = .ok (.irem, 1) := by decide +kernel
theorem dX5_digest_256 : decode cX5_digest 256 = .ok (.i2l, 1) := by decide +kernel
theorem dX5_digest_257 : decode cX5_digest 257 = .ok (.ladd, 1) := by decide +kernel
theorem dX5_digest_258 : decode cX5_digest 258 = .ok (.lstore_n 1, 1) := by decide +kernel
theorem dX5_digest_259 : decode cX5_digest 259 = .ok (.iinc 3 1, 3) := by decide +kernel
theorem dX5_digest_262 : decode cX5_digest 262 = .ok (.goto (-61), 3) := by decide +kernel
theorem dX5_digest_265 : decode cX5_digest 265 = .ok (.lload_n 1, 1) := by decide +kernel
theorem dX5_digest_266 : decode cX5_digest 266 = .ok (.lreturn, 1) := by decide +kernel
